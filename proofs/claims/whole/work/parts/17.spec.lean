/-! what stays true over a week -/
theorem upn_le {f : Nat → Nat} {k v n : Nat} (hf : ∀ j, j < n → f j ≤ 9) (hv : v ≤ 9) : ∀ j, j < n → upn f k v j ≤ 9 := by
  intro j hj
  unfold upn
  split
  · exact hv
  · exact hf j hj
theorem vk_stm {T : TD} {V : VS} (h : vk T V) : vk T (stm T V) := by
  obtain ⟨h1, h2, h3, h4⟩ := h
  refine ⟨h1, h2, fun k hk => ⟨?_, (h3 k hk).2⟩, h4⟩
  show (if k < tnb T ∧ vis V k = 1 then _ else vho V k) ≤ 9
  have := (h3 k hk).1
  split <;> omega
theorem vk_shr {T : TD} {V : VS} {k : Nat} (h : vk T V) (hk : k < 8) (h1 : vis V k = 1) (hto : tok T) : vk T (shr T V k) := by
  obtain ⟨a1, a2, a3, a4⟩ := h
  have q := (a2 k hk).2.2 h1
  have qb := (hto.2.2.1 k q.1).2.1
  refine ⟨upn_le a1 (by have := a1 (8 * vnm V k + tbu T k) (by omega); omega), a2, fun j hj => ?_, a4⟩
  have q3 := a3 j hj
  refine ⟨q3.1, ?_, fun hv => ?_⟩
  · show upn (vgr V) k 0 j ≤ 36
    unfold upn; split <;> omega
  · show upn (vgr V) k 0 j ≤ 27
    have := q3.2.2 hv
    unfold upn; split <;> omega
theorem vk_mku {T : TD} {V : VS} {k : Nat} (h : vk T V) : vk T (mku T V k) := by
  obtain ⟨a1, a2, a3, a4⟩ := h
  exact ⟨upn_le (upn_le a1 (by omega)) (by omega), a2, a3, a4⟩
theorem vk_evt {T : TD} {V : VS} {e : Nat} (h : vk T V) (hto : tok T) (he : e < tne T) : vk T (evt T V e) ∧ vis (evt T V e) = vis V ∧ vnm (evt T V e) = vnm V := by
  have q := (hto.2.2.2.1 e he).2.2
  unfold evt
  split
  · exact ⟨vk_stm h, rfl, rfl⟩
  · split
    · rename_i h1
      split
      · exact ⟨vk_shr h q h1 hto, rfl, rfl⟩
      · exact ⟨vk_mku h, rfl, rfl⟩
    · exact ⟨h, rfl, rfl⟩
theorem vk_evs {T : TD} {V : VS} {w : Nat} (h : vk T V) (hto : tok T) : ∀ e, e ≤ tne T → vk T (evs T w e V) ∧ vis (evs T w e V) = vis V ∧ vnm (evs T w e V) = vnm V := by
  intro e
  induction e with
  | zero => intro _; exact ⟨h, rfl, rfl⟩
  | succ e ih =>
    intro he
    obtain ⟨i1, i2, i3⟩ := ih (by omega)
    unfold evs
    split
    · obtain ⟨j1, j2, j3⟩ := vk_evt i1 hto (show e < tne T by omega)
      exact ⟨j1, j2.trans i2, j3.trans i3⟩
    · exact ⟨i1, i2, i3⟩
theorem vk_lau {T : TD} {V : VS} {k : Nat} (h : vk T V) (hto : tok T) (hk : k < tnb T) (h0 : vis V k = 0) : vk T (lau T V k) := by
  obtain ⟨a1, a2, a3, a4⟩ := h
  have n8 := hto.1
  have qb := (hto.2.2.1 k hk).2.1
  have hw := (wst_le (vh V) (tbu T k) a1 qb 8 (by omega)).1
  refine ⟨a1, fun j hj => ?_, fun j hj => ?_, a4⟩
  · have q := a2 j hj
    show upn (vis V) k _ j ≤ 3 ∧ upn (vnm V) k _ j ≤ 8 ∧ (upn (vis V) k _ j = 1 → j < tnb T ∧ upn (vnm V) k _ j < 8)
    by_cases e : j = k
    · subst e
      rw [upn_s, upn_s]
      by_cases e8 : (wst (vh V) (tbu T j) 8).1 = 8
      · rw [if_pos e8]; exact ⟨by omega, hw, fun z => by cases z⟩
      · rw [if_neg e8]; exact ⟨by omega, hw, fun _ => ⟨hk, by omega⟩⟩
    · rw [upn_n e, upn_n e]; exact q
  · have q := a3 j hj
    refine ⟨q.1, q.2.1, fun hv => q.2.2 ?_⟩
    have hv' : upn (vis V) k (if (wst (vh V) (tbu T k) 8).1 = 8 then 3 else 1) j ≤ 1 := hv
    by_cases e : j = k
    · rw [e, h0]; omega
    · rw [upn_n e] at hv'; exact hv'
theorem vk_bea {T : TD} {V : VS} {k w : Nat} (h : vk T V) (hto : tok T) (hk : k < tnb T) (h1 : vis V k = 1) (hw : w < 24) : vk T (bea T w V k) := by
  obtain ⟨a1, a2, a3, a4, a5⟩ := h
  have n8 := hto.1
  have qb := (hto.2.2.1 k hk).2.1
  have q1 := (a2 k (by omega)).2.2 h1
  have q3 := a1 (8 * vnm V k + tbu T k) (by omega)
  have q4 := a1 (8 * tbu T k + vnm V k) (by omega)
  have q5 := (a3 k hk).2.2 (by omega)
  have q6 := brn_le (T := T) (V := V) (k := k) q5 q3
  have q7 := (a3 k hk).1
  by_cases hs : 3 * vho V k < brn T V k ∨ vho V k = 0
  · rw [bea_s hs]
    refine ⟨upn_le a1 (by show (if vh V (8 * tbu T k + vnm V k) < 9 then vh V (8 * tbu T k + vnm V k) + 1 else vh V (8 * tbu T k + vnm V k)) ≤ 9; split <;> omega), fun j hj => ?_, fun j hj => ?_, ?_, ?_⟩
    · have q := a2 j hj
      show upn (vis V) k 2 j ≤ 3 ∧ vnm V j ≤ 8 ∧ (upn (vis V) k 2 j = 1 → j < tnb T ∧ vnm V j < 8)
      by_cases e : j = k
      · subst e; rw [upn_s]; exact ⟨by omega, q.2.1, fun z => by cases z⟩
      · rw [upn_n e]; exact q
    · have q := a3 j hj
      show vho V j ≤ 9 ∧ upn (vgr V) k (brn T V k) j ≤ 36 ∧ (upn (vis V) k 2 j ≤ 1 → upn (vgr V) k (brn T V k) j ≤ 27)
      by_cases e : j = k
      · subst e; rw [upn_s, upn_s]; exact ⟨q.1, q6, fun z => by omega⟩
      · rw [upn_n e, upn_n e]; exact q
    · show (if vfw V = 24 then w else vfw V) ≤ 24
      split <;> omega
    · show (if vfw V = 24 then k else vfb V) ≤ 8
      split <;> omega
  · rw [bea_n hs]
    refine ⟨a1, a2, fun j hj => ?_, a4, a5⟩
    have q := a3 j hj
    show vho V j ≤ 9 ∧ upn (vgr V) k (brn T V k) j ≤ 36 ∧ (vis V j ≤ 1 → upn (vgr V) k (brn T V k) j ≤ 27)
    by_cases e : j = k
    · subst e; rw [upn_s]; exact ⟨q.1, q6, fun z => by omega⟩
    · rw [upn_n e]; exact q
/-- who isn't launched yet by week w -/
def ul (T : TD) (w : Nat) (V : VS) : Prop := ∀ k, k < tnb T → w ≤ tla T k → vis V k = 0 ∧ vnm V k = 8
theorem vk_lnc {T : TD} {V : VS} {w : Nat} (h : vk T V) (hto : tok T) (hu : ul T w V) : ∀ k, k ≤ tnb T → vk T (lnc T w V k) ∧ (∀ j, k ≤ j → vis (lnc T w V k) j = vis V j ∧ vnm (lnc T w V k) j = vnm V j) ∧ (∀ j, j < k → tla T j ≠ w → vis (lnc T w V k) j = vis V j ∧ vnm (lnc T w V k) j = vnm V j) := by
  intro k
  induction k with
  | zero => intro _; exact ⟨h, fun _ _ => ⟨rfl, rfl⟩, fun j hj => by omega⟩
  | succ k ih =>
    intro hk
    obtain ⟨i1, i2, i3⟩ := ih (by omega)
    unfold lnc
    split
    · rename_i hl
      have e0 := i2 k (Nat.le_refl _)
      have e1 := hu k (by omega) (by omega)
      refine ⟨vk_lau i1 hto (by omega) (e0.1.trans e1.1), fun j hj => ?_, fun j hj hne => ?_⟩
      · have hjk : j ≠ k := by omega
        have := i2 j (by omega)
        exact ⟨(upn_n hjk).trans this.1, (upn_n hjk).trans this.2⟩
      · have hjk : j ≠ k := fun e => hne (by rw [e]; exact hl)
        have := i3 j (by omega) hne
        exact ⟨(upn_n hjk).trans this.1, (upn_n hjk).trans this.2⟩
    · rename_i hl
      refine ⟨i1, fun j hj => i2 j (by omega), fun j hj hne => ?_⟩
      by_cases e : j = k
      · rw [e]; exact i2 k (Nat.le_refl _)
      · exact i3 j (by omega) hne
theorem bea_o {T : TD} {V : VS} {k w j : Nat} (hj : j ≠ k) : vis (bea T w V k) j = vis V j ∧ vnm (bea T w V k) j = vnm V j := by
  by_cases hs : 3 * vho V k < brn T V k ∨ vho V k = 0
  · rw [bea_s hs]; exact ⟨upn_n hj, rfl⟩
  · rw [bea_n hs]; exact ⟨rfl, rfl⟩
theorem bea_m {T : TD} {V : VS} {k w : Nat} : vnm (bea T w V k) = vnm V := by
  by_cases hs : 3 * vho V k < brn T V k ∨ vho V k = 0
  · rw [bea_s hs]; rfl
  · rw [bea_n hs]; rfl
theorem vk_sls {T : TD} {V : VS} {w : Nat} (h : vk T V) (hto : tok T) (hw : w < 24) : ∀ k, k ≤ tnb T → vk T (sls T w V k) ∧ (∀ j, k ≤ j → vis (sls T w V k) j = vis V j) ∧ (∀ j, vis V j = 0 → vis (sls T w V k) j = 0) ∧ vnm (sls T w V k) = vnm V := by
  intro k
  induction k with
  | zero => intro _; exact ⟨h, fun _ _ => rfl, fun _ z => z, rfl⟩
  | succ k ih =>
    intro hk
    obtain ⟨i1, i2, i3, i4⟩ := ih (by omega)
    unfold sls
    split
    · rename_i h1
      refine ⟨vk_bea i1 hto (by omega) h1 hw, fun j hj => ?_, fun j hj => ?_, bea_m.trans i4⟩
      · rw [(bea_o (show j ≠ k by omega)).1]; exact i2 j (by omega)
      · have hjk : j ≠ k := fun e => by rw [e] at hj; have := i3 k hj; omega
        rw [(bea_o hjk).1]; exact i3 j hj
    · exact ⟨i1, fun j hj => i2 j (by omega), i3, i4⟩
theorem vk_wkf {T : TD} {V : VS} {w : Nat} (h : vk T V) (hto : tok T) (hw : w < 24) (hu : ul T w V) : vk T (wkf T w V) ∧ ul T (w + 1) (wkf T w V) := by
  obtain ⟨e1, e2, e3⟩ := vk_evs (w := w) h hto (tne T) (Nat.le_refl _)
  have hu1 : ul T w (evs T w (tne T) V) := fun k hk hl => by rw [e2, e3]; exact hu k hk hl
  obtain ⟨l1, l2, l3⟩ := vk_lnc e1 hto hu1 (tnb T) (Nat.le_refl _)
  obtain ⟨s1, s2, s3, s4⟩ := vk_sls l1 hto hw (tnb T) (Nat.le_refl _)
  refine ⟨s1, fun k hk hl => ?_⟩
  have q := l3 k hk (by omega)
  have q2 := hu1 k hk (by omega)
  refine ⟨s3 k (q.1.trans q2.1), ?_⟩
  show vnm (sls T w _ (tnb T)) k = 8
  rw [s4]
  exact q.2.trans q2.2
theorem vk_vz {T : TD} (hto : tok T) : vk T (vz T) ∧ ul T 0 (vz T) := by
  refine ⟨⟨hto.2.2.2.2.1, fun k _ => ⟨Nat.zero_le 3, Nat.le_refl 8, fun z => by cases z⟩, fun k hk => ⟨(hto.2.2.1 k hk).2.2.2, Nat.zero_le 36, fun _ => Nat.zero_le 27⟩, Nat.le_refl 24, Nat.le_refl 8⟩, fun k _ _ => ⟨rfl, rfl⟩⟩
theorem vk_vo {T : TD} (hto : tok T) : ∀ w, w ≤ 24 → vk T (vo T w) ∧ ul T w (vo T w) := by
  intro w
  induction w with
  | zero => intro _; exact vk_vz hto
  | succ w ih => intro hw; have q := ih (by omega); exact vk_wkf q.1 hto (by omega) q.2
/-- weeks at sea, boat by boat -/
def lsk (T : TD) (w : Nat) (V : VS) (ls : Nat → Nat) : Nat → Nat → Nat
  | 0 => ls
  | k + 1 => if vis (sls T w V (k + 1)) k = 1 then upn (lsk T w V ls k) k (lsk T w V ls k k + 1) else lsk T w V ls k
/-- behind how many weeks a boat was at sea -/
def lsn (T : TD) : Nat → Nat → Nat
  | 0, _ => 0
  | w + 1, k => lsn T w k + (if vis (vo T (w + 1)) k = 1 then 1 else 0)
theorem sls_keep {T : TD} {V : VS} {w : Nat} : ∀ n k j, j < k → k ≤ n → vis (sls T w V n) j = vis (sls T w V k) j := by
  intro n
  induction n with
  | zero => intro k j hj hk; omega
  | succ n ih =>
    intro k j hj hk
    by_cases e : k = n + 1
    · rw [e]
    · rw [← ih k j hj (by omega)]
      show vis (if vis (sls T w V n) n = 1 then bea T w (sls T w V n) n else sls T w V n) j = _
      split
      · exact (bea_o (by omega)).1
      · rfl
theorem lsk_at {T : TD} {V : VS} {w : Nat} {ls : Nat → Nat} : ∀ k j, lsk T w V ls k j = ls j + (if j < k ∧ vis (sls T w V k) j = 1 then 1 else 0) := by
  intro k
  induction k with
  | zero => intro j; rw [if_neg (by omega)]; rfl
  | succ k ih =>
    intro j
    have hk : ∀ i, i < k → vis (sls T w V (k + 1)) i = vis (sls T w V k) i := fun i hi => sls_keep (k + 1) k i hi (by omega)
    have h0 : lsk T w V ls (k + 1) j = if vis (sls T w V (k + 1)) k = 1 then upn (lsk T w V ls k) k (lsk T w V ls k k + 1) j else lsk T w V ls k j := by
      show (if vis (sls T w V (k + 1)) k = 1 then upn (lsk T w V ls k) k (lsk T w V ls k k + 1) else lsk T w V ls k) j = _
      split <;> rfl
    rw [h0]
    by_cases e : j = k
    · subst e
      rw [upn_s, ih j, if_neg (show ¬ (j < j ∧ _) by omega)]
      by_cases h1 : vis (sls T w V (j + 1)) j = 1
      · rw [if_pos h1, if_pos ⟨by omega, h1⟩]
      · rw [if_neg h1, if_neg (by omega)]
    · rw [upn_n e, ite_self, ih j]
      congr 1
      by_cases hj : j < k
      · rw [hk j hj]
        have : (j < k ∧ vis (sls T w V k) j = 1) ↔ (j < k + 1 ∧ vis (sls T w V k) j = 1) := by omega
        simp only [this]
      · rw [if_neg (by omega), if_neg (by omega)]
/-- where no boat is left, a week changes nothing -/
theorem wkf_stop {T : TD} {V : VS} {w : Nat} (hV : vk T V) (hto : tok T) (hu : ul T w V) (h0 : lft T V = 0) : wkf T w V = V := by
  have hn : ∀ k, k < tnb T → ¬ vis V k ≤ 1 := fun k hk => by simpa using cnt_0 h0 k hk
  have hn8 : ∀ k, k < 8 → vis V k ≠ 1 := fun k hk z => hn k ((hV.2.1 k hk).2.2 z).1 (by omega)
  have e1 : ∀ e, e ≤ tne T → evs T w e V = V := by
    intro e
    induction e with
    | zero => intro _; rfl
    | succ e ih =>
      intro he
      unfold evs
      rw [ih (by omega)]
      split
      · unfold evt
        split
        · unfold stm
          have : (fun k => if k < tnb T ∧ vis V k = 1 then vho V k - (if tso T k = 2 then 2 else 1) else vho V k) = vho V := by
            funext k
            exact if_neg (fun z => hn k z.1 (by omega))
          rw [this]
        · rw [if_neg (hn8 _ (hto.2.2.2.1 e (by omega)).2.2)]
      · rfl
  have e2 : ∀ k, k ≤ tnb T → lnc T w V k = V := by
    intro k
    induction k with
    | zero => intro _; rfl
    | succ k ih =>
      intro hk
      unfold lnc
      rw [ih (by omega), if_neg (fun z => hn k (by omega) (by have := (hu k (by omega) (by omega)).1; omega))]
  have e3 : ∀ k, k ≤ tnb T → sls T w V k = V := by
    intro k
    induction k with
    | zero => intro _; rfl
    | succ k ih =>
      intro hk
      unfold sls
      rw [ih (by omega), if_neg (fun z => hn k (by omega) (by omega))]
  unfold wkf
  rw [e1 _ (Nat.le_refl _), e2 _ (Nat.le_refl _), e3 _ (Nat.le_refl _)]
theorem vo_stop {T : TD} (hto : tok T) {w : Nat} (h0 : lft T (vo T w) = 0) : ∀ n, w + n ≤ 24 → vo T (w + n) = vo T w ∧ ∀ k, k < tnb T → lsn T (w + n) k = lsn T w k := by
  intro n
  induction n with
  | zero => intro _; exact ⟨rfl, fun _ _ => rfl⟩
  | succ n ih =>
    intro hn
    obtain ⟨i1, i2⟩ := ih (by omega)
    have q := vk_vo hto (w + n) (by omega)
    have e : vo T (w + (n + 1)) = vo T w := by
      show wkf T (w + n) (vo T (w + n)) = _
      rw [wkf_stop q.1 hto q.2 (by rw [i1]; exact h0), i1]
    refine ⟨e, fun k hk => ?_⟩
    show lsn T (w + n) k + (if vis (vo T (w + (n + 1))) k = 1 then 1 else 0) = _
    have hv : ¬ vis (vo T w) k ≤ 1 := by simpa using cnt_0 h0 k hk
    rw [e, if_neg (by omega), i2 k hk]
    rfl
theorem cnt_all {p : Nat → Bool} : ∀ {n : Nat}, (∀ k, k < n → p k = true) → cnt p n = n := by
  intro n
  induction n with
  | zero => intro _; rfl
  | succ n ih =>
    intro h
    unfold cnt
    rw [ih (fun k hk => h k (by omega)), h n (by omega)]
    rfl

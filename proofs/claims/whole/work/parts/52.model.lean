/-! the model: what is spared; what was seen -/
theorem evs_k (T : TD) (w : Nat) (V : VS) : ∀ e, vis (evs T w e V) = vis V ∧ vnm (evs T w e V) = vnm V ∧ vfw (evs T w e V) = vfw V := by
  intro e
  induction e with
  | zero => exact ⟨rfl, rfl, rfl⟩
  | succ e ih =>
    unfold evs
    split
    · unfold evt
      split
      · exact ih
      · split
        · split
          · exact ih
          · exact ih
        · exact ih
    · exact ih
theorem lnc_nm {T : TD} {w k : Nat} (V : VS) (hk : tla T k ≠ w) : ∀ n, vnm (lnc T w V n) k = vnm V k := by
  intro n
  induction n with
  | zero => rfl
  | succ n ih =>
    unfold lnc
    split
    · rename_i e
      show upn (vnm (lnc T w V n)) n _ k = _
      unfold upn
      rw [if_neg (fun z => hk (by rw [z]; exact e))]
      exact ih
    · exact ih
theorem pick {P : VS → Prop} {c : Prop} [Decidable c] {A B : VS} (ha : P A) (hb : P B) : P (if c then A else B) := by
  split
  · exact ha
  · exact hb
theorem bea_k (T : TD) (w : Nat) (V : VS) (k : Nat) : (vis (bea T w V k) = upn (vis V) k 2 ∧ vfw (bea T w V k) = (if vfw V = 24 then w else vfw V)) ∨ (vis (bea T w V k) = vis V ∧ vfw (bea T w V k) = vfw V) := by
  unfold bea
  exact pick (P := fun Z => (vis Z = upn (vis V) k 2 ∧ vfw Z = (if vfw V = 24 then w else vfw V)) ∨ (vis Z = vis V ∧ vfw Z = vfw V)) (Or.inl ⟨rfl, rfl⟩) (Or.inr ⟨rfl, rfl⟩)
theorem bea_nm (T : TD) (w : Nat) (V : VS) (k : Nat) : vnm (bea T w V k) = vnm V := by
  unfold bea
  exact pick (P := fun Z => vnm Z = vnm V) rfl rfl
theorem sls_nm (T : TD) (w : Nat) (V : VS) : ∀ n, vnm (sls T w V n) = vnm V := by
  intro n
  induction n with
  | zero => rfl
  | succ n ih =>
    unfold sls
    split
    · rw [bea_nm]; exact ih
    · exact ih
theorem wk_nm {T : TD} {w k : Nat} (V : VS) (hk : tla T k ≠ w) : vnm (wkf T w V) k = vnm V k := by
  unfold wkf
  rw [sls_nm, lnc_nm _ hk, (evs_k T w V (tne T)).2.1]
theorem nm_before {T : TD} {k : Nat} : ∀ w, w ≤ tla T k → vnm (vo T w) k = 8 := by
  intro w
  induction w with
  | zero => intro _; rfl
  | succ w ih =>
    intro h
    show vnm (wkf T w (vo T w)) k = 8
    rw [wk_nm _ (by omega)]
    exact ih (by omega)
theorem nm_after {T : TD} {k : Nat} : ∀ d, vnm (vo T (tla T k + 1 + d)) k = vnm (vo T (tla T k + 1)) k := by
  intro d
  induction d with
  | zero => rfl
  | succ d ih =>
    show vnm (wkf T (tla T k + 1 + d) (vo T (tla T k + 1 + d))) k = _
    rw [wk_nm _ (by omega)]
    exact ih
theorem nm_nmb (T : TD) {w k : Nat} (hw : w < 24) : vnm (vo T (w + 1)) k = nmb T (vo T 24) w k := by
  unfold nmb
  by_cases h : tla T k ≤ w
  · have a := nm_after (T := T) (k := k) (w - tla T k)
    have b := nm_after (T := T) (k := k) (23 - tla T k)
    rw [show tla T k + 1 + (w - tla T k) = w + 1 by omega] at a
    rw [show tla T k + 1 + (23 - tla T k) = 24 by omega] at b
    rw [a, ← b]
    by_cases e : vnm (vo T 24) k = 8
    · rw [if_neg (fun z => z.2 e)]; exact e
    · rw [if_pos ⟨h, e⟩]
  · rw [if_neg (fun z => h z.1)]
    exact nm_before (w + 1) (by omega)
theorem lnc_k {T : TD} {w : Nat} (V : VS) (h0 : ∀ k, k < tnb T → w ≤ tla T k → vis V k = 0) : ∀ n, n ≤ tnb T → (∀ k, k < tnb T → (vis (lnc T w V n) k = 2 ↔ vis V k = 2)) ∧ (∀ k, k < tnb T → w + 1 ≤ tla T k → vis (lnc T w V n) k = 0) ∧ vfw (lnc T w V n) = vfw V := by
  intro n
  induction n with
  | zero => intro _; exact ⟨fun _ _ => Iff.rfl, fun k hk h => h0 k hk (by omega), rfl⟩
  | succ n ih =>
    intro hn
    have q := ih (by omega)
    unfold lnc
    split
    · rename_i e
      refine ⟨fun k hk => ?_, fun k hk h => ?_, q.2.2⟩
      · show upn (vis (lnc T w V n)) n _ k = 2 ↔ _
        unfold upn
        by_cases e2 : k = n
        · rw [if_pos e2, e2, h0 n (by omega) (by omega)]
          split <;> decide
        · rw [if_neg e2]; exact q.1 k hk
      · show upn (vis (lnc T w V n)) n _ k = 0
        unfold upn
        rw [if_neg (fun z => by rw [z] at h; omega)]
        exact q.2.1 k hk h
    · exact q
theorem sls_k {T : TD} {w : Nat} (hw : w < 24) (V : VS) (h0 : vfw V = 24 ↔ ∀ k, k < tnb T → vis V k ≠ 2) : ∀ n, n ≤ tnb T → (vfw (sls T w V n) = 24 ↔ ∀ k, k < tnb T → vis (sls T w V n) k ≠ 2) ∧ (∀ k, vis V k = 0 → vis (sls T w V n) k = 0) := by
  intro n
  induction n with
  | zero => intro _; exact ⟨h0, fun _ h => h⟩
  | succ n ih =>
    intro hn
    have q := ih (by omega)
    unfold sls
    split
    · rename_i e
      rcases bea_k T w (sls T w V n) n with ⟨b1, b2⟩ | ⟨b1, b2⟩
      · rw [b1, b2]
        refine ⟨⟨fun z => ?_, fun z => ?_⟩, fun k hk => ?_⟩
        · exfalso
          split at z <;> omega
        · exact absurd (show upn (vis (sls T w V n)) n 2 n = 2 from if_pos rfl) (z n (by omega))
        · have := q.2 k hk
          unfold upn
          rw [if_neg (fun z => by rw [z] at this; omega)]
          exact this
      · rw [b1, b2]
        exact q
    · exact q
theorem fw_inv {T : TD} : ∀ w, w ≤ 24 → (vfw (vo T w) = 24 ↔ ∀ k, k < tnb T → vis (vo T w) k ≠ 2) ∧ (∀ k, k < tnb T → w ≤ tla T k → vis (vo T w) k = 0) := by
  intro w
  induction w with
  | zero => intro _; exact ⟨⟨fun _ k _ z => absurd (show (0 : Nat) = 2 from z) (by decide), fun _ => rfl⟩, fun _ _ _ => rfl⟩
  | succ w ih =>
    intro hw
    have q := ih (by omega)
    have e := evs_k T w (vo T w) (tne T)
    have l := lnc_k (w := w) (evs T w (tne T) (vo T w)) (fun k hk h => by rw [e.1]; exact q.2 k hk h) (tnb T) (Nat.le_refl _)
    have z0 : vfw (lnc T w (evs T w (tne T) (vo T w)) (tnb T)) = 24 ↔ ∀ k, k < tnb T → vis (lnc T w (evs T w (tne T) (vo T w)) (tnb T)) k ≠ 2 := by
      rw [l.2.2, e.2.2, q.1]
      exact ⟨fun a k hk z => a k hk (by rw [← e.1]; exact (l.1 k hk).mp z), fun a k hk z => a k hk ((l.1 k hk).mpr (by rw [e.1]; exact z))⟩
    have s := sls_k (w := w) (by omega) _ z0 (tnb T) (Nat.le_refl _)
    exact ⟨s.1, fun k hk h => s.2 k (l.2.1 k hk h)⟩
theorem cnt_zr {p : Nat → Bool} : ∀ n, cnt p n = 0 ↔ ∀ k, k < n → p k = false := by
  intro n
  induction n with
  | zero => exact ⟨fun _ k hk => absurd hk (Nat.not_lt_zero _), fun _ => rfl⟩
  | succ n ih =>
    cases h : p n with
    | false =>
      rw [cnt_z h, ih]
      refine ⟨fun a k hk => ?_, fun a k hk => a k (by omega)⟩
      by_cases e : k = n
      · rw [e]; exact h
      · exact a k (by omega)
    | true =>
      rw [cnt_s h]
      exact ⟨fun a => absurd a (by omega), fun a => by have := a n (by omega); rw [h] at this; exact absurd this (by decide)⟩
theorem fw_cnt (T : TD) : vfw (vo T 24) = 24 ↔ cnt (fun k => decide (vis (vo T 24) k = 2)) (tnb T) = 0 := by
  rw [(fw_inv 24 (Nat.le_refl _)).1, cnt_zr]
  exact ⟨fun a k hk => decide_eq_false (a k hk), fun a k hk => of_decide_eq_false (a k hk)⟩
theorem MT.cel {T : TD} {u : ST} {k e : Nat} {v : Int32} (h : MT T u) (hk : k ∉ [48, 52, 53, 54, 55, 56, 60, 61, 62]) : MT T (pt u k e v) := by
  obtain ⟨h1, h2, h3, h4, h5, h6, h7, h8, h9, ha, hb⟩ := h
  have q : ∀ c, c ∈ [48, 52, 53, 54, 55, 56, 60, 61, 62] → c ≠ k := fun c hc z => hk (by rw [← z]; exact hc)
  have q48 : (pt u k e v).1 48 = u.1 48 := if_neg (q 48 (by decide))
  exact ⟨h1.ne (q _ (by decide)), h2.ne (q _ (by decide)), h3.ne (q _ (by decide)), h4.ne (q _ (by decide)), h5.ne (q _ (by decide)), h6.ne (q _ (by decide)), h7.ne (q _ (by decide)), h8.ne (q _ (by decide)), by rw [q48]; exact h9, by rw [q48]; exact ha, by rw [q48]; exact hb⟩
set_option maxHeartbeats 2000000 in
theorem m_isSpared (S : ST) (T : TD) (l m : Nat) (hTl : MT (wlo T l) S) (hto : tok T) (hm : m < 512) : EX me_R_isSpared 4 [.ref 48, .int (nI m)] S (fun r u => r = some (.int (b2 (vfw (vo (wlo T m) 24) = 24))) ∧ MT (wlo T m) u ∧ fr MW S u ∧ f48 [18, 24, 25] S u ∧ u.2 = S.2) := by
  refine EX.of mok_R_isSpared (Nat.le_of_ble_eq_true rfl) ?_
  have n8 := hto.1
  refine run_ok 3 (c' := (5, [(0, .ref 48), (1, .int (nI m))], [], (pt S 48 18 (nI m)))) rfl ?_
  have hTm : MT (wlo T m) (pt S 48 18 (nI m)) := ⟨hTl.1, hTl.2.1, hTl.2.2.1, hTl.2.2.2.1, hTl.2.2.2.2.1, hTl.2.2.2.2.2.1, hTl.2.2.2.2.2.2.1, hTl.2.2.2.2.2.2.2.1, hTl.2.2.2.2.2.2.2.2.1, hTl.2.2.2.2.2.2.2.2.2.1, rfl⟩
  refine run_ok 1 (c' := (6, [(0, .ref 48), (1, .int (nI m))], [.ref 48], (pt S 48 18 (nI m)))) rfl ?_
  refine x_callV [] rfl cv_R_runs.1 lk_7_223 cv_R_runs.2.1 cv_R_runs.2.2.1 rfl cv_R_runs.2.2.2.1 rfl rfl (Nat.le_of_ble_eq_true rfl) (by decide) cv_R_runs.2.2.2.2 (m_runs (pt S 48 18 (nI m)) (wlo T m) hTm (tok_wlo hto hm)) ?_
  rintro r u ⟨hr, hMu, hCu, hTu, hfu, h8u, h2u⟩
  rw [hr]
  clear hr r
  refine run_ok 3 (c' := (13, [(0, .ref 48), (1, .int (nI m))], [.int (nI 2), .int (nI 23), .ref 48], u)) rfl ?_
  refine x_callV [.int (nI 23), .int (nI 2)] rfl cv_R_manyAt.1 lk_7_235 cv_R_manyAt.2.1 cv_R_manyAt.2.2.1 rfl cv_R_manyAt.2.2.2.1 rfl rfl (Nat.le_of_ble_eq_true rfl) (by decide) cv_R_manyAt.2.2.2.2 (m_manyAt u (wlo T m) hTu hCu (tok_wlo hto hm) 23 2 (by decide) (by decide)) ?_
  rintro r z ⟨hr, hu⟩
  rw [hr, hu]
  clear hr hu r z
  have q5 := cnt_le (fun k => decide (vis (vo (wlo T m) 24) k = 2)) (tnb T)
  refine x_top (v' := nI (cnt (fun k => decide (vis (vo (wlo T m) 24) k = 2)) (tnb T))) rfl ?_
  refine x_ifN_ne 23 rfl rfl (by omega) (fun h16 => ?_) (fun h16 => ?_)
  · refine run_ok 1 (c' := (24, [(0, .ref 48), (1, .int (nI m))], [.int (nI 0)], u)) rfl ?_
    exact x_ret (r := some (.int (nI 0))) rfl rfl (Or.inl rfl) ⟨congrArg (fun z => some (Value.int z)) (b2_f (fun z => h16 ((fw_cnt (wlo T m)).mp z))).symm, hTu, ((fr.rf.pt (by decide)).tr hfu), ((f48.rf.put (by decide)).tr (h8u.sub (by decide))), h2u⟩ rfl
  · refine run_ok 2 (c' := (24, [(0, .ref 48), (1, .int (nI m))], [.int (nI 1)], u)) rfl ?_
    exact x_ret (r := some (.int (nI 1))) rfl rfl (Or.inr rfl) ⟨congrArg (fun z => some (Value.int z)) (b2_t ((fw_cnt (wlo T m)).mpr h16)).symm, hTu, ((fr.rf.pt (by decide)).tr hfu), ((f48.rf.put (by decide)).tr (h8u.sub (by decide))), h2u⟩ rfl

theorem pc1 : ∀ e, e < 8 → pcn (2 ^ e) = 1 ∧ pb (2 ^ e) 0 8 0 0 = some e ∧ pb (2 ^ e) 1 8 0 0 = none := by decide
theorem pc2 : ∀ f, f < 8 → ∀ e, e < f → pcn (2 ^ e + 2 ^ f) = 2 ∧ pb (2 ^ e + 2 ^ f) 0 8 0 0 = some e ∧ pb (2 ^ e + 2 ^ f) 1 8 0 0 = some f := by decide
theorem spa_n {T : TD} {m : Nat} (h : spb T = some m) : spa T none = nI (pcn m) := by unfold spa; rw [h]
theorem spa_x {T : TD} {m : Nat} (h : spb T = some m) (x : Nat) : spa T (some x) = spv (pb m x 8 0 0) := by unfold spa; rw [h]
theorem spa_z {T : TD} (h : spb T = none) (i : Option Nat) : spa T i = (-1) := by unfold spa; rw [h]
/-- the plan that spares: how many, which -/
def SQ (T : TD) (S : ST) (r : Option Value) (u : ST) : Prop := r = some (.int (spa T none)) ∧ (∀ x, x < 2 → nI x < spa T none → u.1 73 x = spa T (some x)) ∧ (∀ x, x < 2 → ¬ nI x < spa T none → spa T (some x) = (-1)) ∧ QM S u
theorem SQ.z {T : TD} {S u : ST} (h : spb T = some 0) (hQ : QM S u) : SQ T S (some (.int (nI 0))) u := by
  have e := spa_n h
  rw [show pcn 0 = 0 from rfl] at e
  refine ⟨by rw [e], fun x hx z => ?_, fun x hx _ => ?_, hQ⟩
  · rw [e] at z
    exact absurd ((nI_ltI (by omega) (by decide)).mp z) (Nat.not_lt_zero _)
  · rw [spa_x h]
    rcases (show x = 0 ∨ x = 1 by omega) with q | q <;> rw [q] <;> rfl
theorem SQ.o {T : TD} {S u : ST} {e : Nat} (h : spb T = some (2 ^ e)) (he : e < 8) (h0 : u.1 73 0 = nI e) (hQ : QM S u) : SQ T S (some (.int (nI 1))) u := by
  have a := spa_n h
  have c := pc1 e he
  rw [c.1] at a
  refine ⟨by rw [a], fun x hx z => ?_, fun x hx z => ?_, hQ⟩
  · rw [a] at z
    have q : x = 0 := by have := (nI_ltI (by omega) (by decide)).mp z; omega
    rw [q, spa_x h, c.2.1]
    exact h0
  · rw [a, nI_ltI (by omega) (by decide)] at z
    rw [show x = 1 by omega, spa_x h, c.2.2]
    rfl
theorem SQ.t {T : TD} {S u : ST} {e f : Nat} (h : spb T = some (2 ^ e + 2 ^ f)) (he : e < f) (hf : f < 8) (h0 : u.1 73 0 = nI e) (h1 : u.1 73 1 = nI f) (hQ : QM S u) : SQ T S (some (.int (nI 2))) u := by
  have a := spa_n h
  have c := pc2 f hf e he
  rw [c.1] at a
  refine ⟨by rw [a], fun x hx z => ?_, fun x hx z => ?_, hQ⟩
  · rcases (show x = 0 ∨ x = 1 by omega) with q | q
    · rw [q, spa_x h, c.2.1]; exact h0
    · rw [q, spa_x h, c.2.2]; exact h1
  · rw [a, nI_ltI (by omega) (by decide)] at z
    omega
theorem SQ.n {T : TD} {S u : ST} (h : spb T = none) (hQ : QM S u) : SQ T S (some (.int (-1))) u := by
  refine ⟨by rw [spa_z h], fun x hx z => ?_, fun x hx _ => spa_z h _, hQ⟩
  rw [spa_z h] at z
  exact absurd (Int32.lt_of_le_of_lt (show nI 0 ≤ nI x from (nI_leI (by decide) (by omega)).mpr (Nat.zero_le _)) z) (by decide)
set_option maxHeartbeats 2000000 in
theorem m_spareBy (S : ST) (T : TD) (n : Nat) (b : Nat → Nat) (n' : Nat) (b' : Nat → Nat) (hL : ML T n b n' b' S) (hto : tok T) : EX me_R_spareBy 7 [.ref 48] S (SQ T S) := by
  refine EX.of mok_R_spareBy (Nat.le_of_ble_eq_true rfl) ?_
  have n8 := hto.1
  have ne8 := hL.2.2.2.2.2.2.2.2.2.1
  have H2 : ∀ i, i ≤ tne T → spb T = (sp3 T (tne T - i) i).map (fun q => 2 ^ q.1 + 2 ^ q.2) → ∀ (v : ST) (l : Nat), MT (wlo T l) v → QM S v → BX me_R_spareBy 7 none (SQ T S) (51, [(0, .ref 48), (1, .int (nI i))], [], v) := by
    refine loop_up (P := fun i => spb T = (sp3 T (tne T - i) i).map (fun q => 2 ^ q.1 + 2 ^ q.2) → ∀ (v : ST) (l : Nat), MT (wlo T l) v → QM S v → BX me_R_spareBy 7 none (SQ T S) (51, [(0, .ref 48), (1, .int (nI i))], [], v)) (tne T) ?_ ?_
    · intro hs v l hTv hQv
      have f10 := (hL.stay hQv).2.2.2.2.2.2.2.2.1
      refine run_ok 3 (c' := (56, [(0, .ref 48), (1, .int (nI (tne T)))], [.int (v.1 48 10), .int (nI (tne T))], v)) rfl ?_
      refine x_top (v' := nI (tne T)) f10 ?_
      refine x_icmpN_ge 113 rfl rfl (by omega) (by omega) (fun h56 => ?_) (fun hn => absurd (Nat.le_refl _) hn)
      refine run_ok 1 (c' := (114, [(0, .ref 48), (1, .int (nI (tne T)))], [.int (-1)], v)) rfl ?_
      exact x_ret (r := some (.int (-1))) rfl rfl trivial (SQ.n (by rw [hs, Nat.sub_self]; rfl) hQv) rfl
    · intro i hi ih hs v l hTv hQv
      have f10 := (hL.stay hQv).2.2.2.2.2.2.2.2.1
      have H3 : ∀ j, j ≤ tne T → i < j → spb T = ((sp2 T i (tne T - j) j).map (fun f => 2 ^ i + 2 ^ f)).or ((sp3 T (tne T - (i + 1)) (i + 1)).map (fun q => 2 ^ q.1 + 2 ^ q.2)) → ∀ (v : ST) (l : Nat), MT (wlo T l) v → QM S v → BX me_R_spareBy 7 none (SQ T S) (63, [(0, .ref 48), (1, .int (nI i)), (2, .int (nI j))], [], v) := by
        refine loop_up (P := fun j => i < j → spb T = ((sp2 T i (tne T - j) j).map (fun f => 2 ^ i + 2 ^ f)).or ((sp3 T (tne T - (i + 1)) (i + 1)).map (fun q => 2 ^ q.1 + 2 ^ q.2)) → ∀ (v : ST) (l : Nat), MT (wlo T l) v → QM S v → BX me_R_spareBy 7 none (SQ T S) (63, [(0, .ref 48), (1, .int (nI i)), (2, .int (nI j))], [], v)) (tne T) ?_ ?_
        · intro hij hs2 v l hTv hQv
          have f10 := (hL.stay hQv).2.2.2.2.2.2.2.2.1
          refine run_ok 3 (c' := (68, [(0, .ref 48), (1, .int (nI i)), (2, .int (nI (tne T)))], [.int (v.1 48 10), .int (nI (tne T))], v)) rfl ?_
          refine x_top (v' := nI (tne T)) f10 ?_
          refine x_icmpN_ge 107 rfl rfl (by omega) (by omega) (fun h68 => ?_) (fun hn => absurd (Nat.le_refl _) hn)
          refine run_ok 1 (c' := (110, [(0, .ref 48), (1, .int (nI i + nI 1)), (2, .int (nI (tne T)))], [], v)) rfl ?_
          rw [nI_add i 1]
          refine run_ok 1 (c' := (51, [(0, .ref 48), (1, .int (nI (i + 1))), (2, .int (nI (tne T)))], [], v)) rfl ?_
          refine x_less [0, 1] rfl ?_
          exact ih (by rw [hs2, Nat.sub_self]; rfl) v l hTv hQv
        · intro j hj ihj hij hs2 v l hTv hQv
          have f10 := (hL.stay hQv).2.2.2.2.2.2.2.2.1
          refine run_ok 3 (c' := (68, [(0, .ref 48), (1, .int (nI i)), (2, .int (nI j))], [.int (v.1 48 10), .int (nI j)], v)) rfl ?_
          refine x_top (v' := nI (tne T)) f10 ?_
          refine x_icmpN_ge 107 rfl rfl (by omega) (by omega) (fun hn => absurd hn (show ¬ tne T ≤ j by omega)) (fun h68 => ?_)
          refine run_ok 4 (c' := (77, [(0, .ref 48), (1, .int (nI i)), (2, .int (nI j))], [.int (nI i), .int (nI 0), .ref 73], v)) rfl ?_
          refine x_isN rfl rfl (by decide) (by omega) ?_
          refine run_ok 4 (c' := (84, [(0, .ref 48), (1, .int (nI i)), (2, .int (nI j))], [.int (nI j), .int (nI 1), .ref 73], (pt v 73 0 (nI i)))) rfl ?_
          refine x_isN rfl rfl (by decide) (by omega) ?_
          refine run_ok 4 (c' := (89, [(0, .ref 48), (1, .int (nI i)), (2, .int (nI j))], [.int ((nI 1) <<< ((nI i) &&& 31)), .ref 48], (pt (pt v 73 0 (nI i)) 73 1 (nI j)))) rfl ?_
          refine x_top (v' := nI (2 ^ i)) (sh1 (by omega)) ?_
          refine run_ok 3 (c' := (92, [(0, .ref 48), (1, .int (nI i)), (2, .int (nI j))], [.int ((nI 1) <<< ((nI j) &&& 31)), .int (nI (2 ^ i)), .ref 48], (pt (pt v 73 0 (nI i)) 73 1 (nI j)))) rfl ?_
          refine x_top (v' := nI (2 ^ j)) (sh1 (by omega)) ?_
          refine run_ok 1 (c' := (93, [(0, .ref 48), (1, .int (nI i)), (2, .int (nI j))], [.int ((nI (2 ^ i)) ||| (nI (2 ^ j))), .ref 48], (pt (pt v 73 0 (nI i)) 73 1 (nI j)))) rfl ?_
          refine x_top (v' := nI (2 ^ i + 2 ^ j)) (or2 (by omega) (by omega)) ?_
          refine x_callV [.int (nI (2 ^ i + 2 ^ j))] rfl cv_R_isSpared.1 lk_7_275 cv_R_isSpared.2.1 cv_R_isSpared.2.2.1 rfl cv_R_isSpared.2.2.2.1 rfl rfl (Nat.le_of_ble_eq_true rfl) (by decide) cv_R_isSpared.2.2.2.2 (m_isSpared (pt (pt v 73 0 (nI i)) 73 1 (nI j)) T l (2 ^ i + 2 ^ j) ((hTv.cel (by decide)).cel (by decide)) hto (p2le (by omega) (by omega))) ?_
          rintro r z ⟨hr, hTz, hfz, h8z, h2z⟩
          rw [hr]
          clear hr r
          have hQz : QM S z := ((hQv.cel (by decide) (by decide)).cel (by decide) (by decide)).tr (QM.of hfz h8z h2z (by decide) (by decide))
          refine x_ifB_eq 101 rfl rfl (fun h96 => ?_) (fun h96 => ?_)
          · refine run_ok 1 (c' := (104, [(0, .ref 48), (1, .int (nI i)), (2, .int (nI j + nI 1))], [], z)) rfl ?_
            rw [nI_add j 1]
            refine run_ok 1 (c' := (63, [(0, .ref 48), (1, .int (nI i)), (2, .int (nI (j + 1)))], [], z)) rfl ?_
            refine ihj (by omega) ?_ z _ hTz hQz
            rw [hs2, show tne T - j = (tne T - (j + 1)) + 1 by omega]
            rw [show sp2 T i (tne T - (j + 1) + 1) j = sp2 T i (tne T - (j + 1)) (j + 1) from if_neg h96]
          · refine run_ok 1 (c' := (100, [(0, .ref 48), (1, .int (nI i)), (2, .int (nI j))], [.int (nI 2)], z)) rfl ?_
            exact x_ret (r := some (.int (nI 2))) rfl rfl trivial (SQ.t (e := i) (f := j) (by rw [hs2, show tne T - j = (tne T - (j + 1)) + 1 by omega, show sp2 T i (tne T - (j + 1) + 1) j = some j from if_pos h96]; rfl) (by omega) (by omega) (by rw [hfz 73 (by decide)]; rfl) (by rw [hfz 73 (by decide)]; rfl) hQz) rfl
      refine run_ok 3 (c' := (56, [(0, .ref 48), (1, .int (nI i))], [.int (v.1 48 10), .int (nI i)], v)) rfl ?_
      refine x_top (v' := nI (tne T)) f10 ?_
      refine x_icmpN_ge 113 rfl rfl (by omega) (by omega) (fun hn => absurd hn (show ¬ tne T ≤ i by omega)) (fun h56 => ?_)
      refine run_ok 3 (c' := (62, [(0, .ref 48), (1, .int (nI i))], [.int ((nI i) + (nI 1))], v)) rfl ?_
      refine x_top (v' := nI (i + 1)) (nI_add _ _) ?_
      refine run_ok 1 (c' := (63, [(0, .ref 48), (1, .int (nI i)), (2, .int (nI (i + 1)))], [], v)) rfl ?_
      refine H3 (i + 1) (by omega) (by omega) ?_ v l hTv hQv
      rw [hs, show tne T - i = (tne T - (i + 1)) + 1 by omega]
      show Option.map _ (match sp2 T i (tne T - (i + 1)) (i + 1) with
        | some f => some (i, f)
        | none => sp3 T (tne T - (i + 1)) (i + 1)) = _
      cases sp2 T i (tne T - (i + 1)) (i + 1) <;> rfl
  have H1 : ∀ i, i ≤ tne T → spb T = ((sp1 T (tne T - i) i).map (fun e => 2 ^ e)).or ((sp3 T (tne T) 0).map (fun q => 2 ^ q.1 + 2 ^ q.2)) → ∀ (v : ST) (l : Nat), MT (wlo T l) v → QM S v → BX me_R_spareBy 7 none (SQ T S) (16, [(0, .ref 48), (1, .int (nI i))], [], v) := by
    refine loop_up (P := fun i => spb T = ((sp1 T (tne T - i) i).map (fun e => 2 ^ e)).or ((sp3 T (tne T) 0).map (fun q => 2 ^ q.1 + 2 ^ q.2)) → ∀ (v : ST) (l : Nat), MT (wlo T l) v → QM S v → BX me_R_spareBy 7 none (SQ T S) (16, [(0, .ref 48), (1, .int (nI i))], [], v)) (tne T) ?_ ?_
    · intro hs v l hTv hQv
      have f10 := (hL.stay hQv).2.2.2.2.2.2.2.2.1
      refine run_ok 3 (c' := (21, [(0, .ref 48), (1, .int (nI (tne T)))], [.int (v.1 48 10), .int (nI (tne T))], v)) rfl ?_
      refine x_top (v' := nI (tne T)) f10 ?_
      refine x_icmpN_ge 49 rfl rfl (by omega) (by omega) (fun h21 => ?_) (fun hn => absurd (Nat.le_refl _) hn)
      refine run_ok 2 (c' := (51, [(0, .ref 48), (1, .int (nI 0))], [], v)) rfl ?_
      exact H2 0 (by omega) (by rw [hs, Nat.sub_self]; rfl) v l hTv hQv
    · intro i hi ih hs v l hTv hQv
      have f10 := (hL.stay hQv).2.2.2.2.2.2.2.2.1
      refine run_ok 3 (c' := (21, [(0, .ref 48), (1, .int (nI i))], [.int (v.1 48 10), .int (nI i)], v)) rfl ?_
      refine x_top (v' := nI (tne T)) f10 ?_
      refine x_icmpN_ge 49 rfl rfl (by omega) (by omega) (fun hn => absurd hn (show ¬ tne T ≤ i by omega)) (fun h21 => ?_)
      refine run_ok 4 (c' := (30, [(0, .ref 48), (1, .int (nI i))], [.int (nI i), .int (nI 0), .ref 73], v)) rfl ?_
      refine x_isN rfl rfl (by decide) (by omega) ?_
      refine run_ok 4 (c' := (35, [(0, .ref 48), (1, .int (nI i))], [.int ((nI 1) <<< ((nI i) &&& 31)), .ref 48], (pt v 73 0 (nI i)))) rfl ?_
      refine x_top (v' := nI (2 ^ i)) (sh1 (by omega)) ?_
      refine x_callV [.int (nI (2 ^ i))] rfl cv_R_isSpared.1 lk_7_275 cv_R_isSpared.2.1 cv_R_isSpared.2.2.1 rfl cv_R_isSpared.2.2.2.1 rfl rfl (Nat.le_of_ble_eq_true rfl) (by decide) cv_R_isSpared.2.2.2.2 (m_isSpared (pt v 73 0 (nI i)) T l (2 ^ i) (hTv.cel (by decide)) hto (p9 (by omega))) ?_
      rintro r z ⟨hr, hTz, hfz, h8z, h2z⟩
      rw [hr]
      clear hr r
      have hQz : QM S z := (hQv.cel (by decide) (by decide)).tr (QM.of hfz h8z h2z (by decide) (by decide))
      refine x_ifB_eq 43 rfl rfl (fun h38 => ?_) (fun h38 => ?_)
      · refine run_ok 1 (c' := (46, [(0, .ref 48), (1, .int (nI i + nI 1))], [], z)) rfl ?_
        rw [nI_add i 1]
        refine run_ok 1 (c' := (16, [(0, .ref 48), (1, .int (nI (i + 1)))], [], z)) rfl ?_
        refine ih ?_ z _ hTz hQz
        rw [hs, show tne T - i = (tne T - (i + 1)) + 1 by omega]
        rw [show sp1 T (tne T - (i + 1) + 1) i = sp1 T (tne T - (i + 1)) (i + 1) from if_neg h38]
      · refine run_ok 1 (c' := (42, [(0, .ref 48), (1, .int (nI i))], [.int (nI 1)], z)) rfl ?_
        exact x_ret (r := some (.int (nI 1))) rfl rfl trivial (SQ.o (e := i) (by rw [hs, show tne T - i = (tne T - (i + 1)) + 1 by omega, show sp1 T (tne T - (i + 1) + 1) i = some i from if_pos h38]; rfl) (by omega) (by rw [hfz 73 (by decide)]; rfl) hQz) rfl
  refine run_ok 1 (c' := (1, [(0, .ref 48)], [.ref 48], S)) rfl ?_
  refine x_callV [] rfl cv_R_asTold.1 lk_7_220 cv_R_asTold.2.1 cv_R_asTold.2.2.1 rfl cv_R_asTold.2.2.2.1 rfl rfl (Nat.le_of_ble_eq_true rfl) (by decide) cv_R_asTold.2.2.2.2 (m_asTold S T n b n' b' (hL.stay QM.rf) hto) ?_
  rintro r u1 ⟨hr, hTu1, hRu1, hqu1⟩
  rw [hr]
  clear hr r
  have hQu1 : QM S u1 := QM.rf.tr hqu1
  obtain ⟨t1, t2, t3, t4, t5, t6, t7, t8, t9, t10, t11⟩ := id hTu1
  refine run_ok 2 (c' := (6, [(0, .ref 48)], [.int (nI 0), .ref 48], u1)) rfl ?_
  refine x_callV [.int (nI 0)] rfl cv_R_isSpared.1 lk_7_275 cv_R_isSpared.2.1 cv_R_isSpared.2.2.1 rfl cv_R_isSpared.2.2.2.1 rfl rfl (Nat.le_of_ble_eq_true rfl) (by decide) cv_R_isSpared.2.2.2.2 (m_isSpared u1 T (tlo T) 0 hTu1 hto (by decide)) ?_
  rintro r z ⟨hr, hTz, hfz, h8z, h2z⟩
  rw [hr]
  clear hr r
  have hQz : QM S z := hQu1.tr (QM.of hfz h8z h2z (by decide) (by decide))
  refine x_ifB_eq 14 rfl rfl (fun h9 => ?_) (fun h9 => ?_)
  · refine run_ok 2 (c' := (16, [(0, .ref 48), (1, .int (nI 0))], [], z)) rfl ?_
    refine H1 0 (by omega) ?_ z _ hTz hQz
    unfold spb
    rw [if_neg h9, Nat.sub_zero]
    cases sp1 T (tne T) 0 <;> cases sp3 T (tne T) 0 <;> rfl
  · refine run_ok 1 (c' := (13, [(0, .ref 48)], [.int (nI 0)], z)) rfl ?_
    exact x_ret (r := some (.int (nI 0))) rfl rfl trivial (SQ.z (by unfold spb; rw [if_pos h9]) hQz) rfl

theorem m_ofRow_n (S : ST) (x : Int32) : EX me_R_ofRow 0 [.ref 48, .int x, .int (-1)] S (fun r u => r = some (.int x) ∧ u = S) := by
  refine EX.of mok_R_ofRow (Nat.le_of_ble_eq_true rfl) ?_
  refine run_ok 2 (c' := (2, [(0, .ref 48), (1, .int x), (2, .int (-1))], [.int (-1), .int (-1)], S)) rfl ?_
  refine x_icmp_ne 9 rfl rfl (fun hn => absurd rfl hn) (fun h2 => ?_)
  refine run_ok 2 (c' := (24, [(0, .ref 48), (1, .int x), (2, .int (-1))], [.int x], S)) rfl ?_
  exact x_ret (r := some (.int x)) rfl rfl trivial ⟨rfl, rfl⟩ rfl

theorem m_ofRow_0 (S : ST) (x a : Int32) (hr : nI 0 < x → S.1 73 0 = a) (ha : ¬ nI 0 < x → a = (-1)) : EX me_R_ofRow 0 [.ref 48, .int x, .int (nI 0)] S (fun r u => r = some (.int a) ∧ u = S) := by
  refine EX.of mok_R_ofRow (Nat.le_of_ble_eq_true rfl) ?_
  refine run_ok 2 (c' := (2, [(0, .ref 48), (1, .int x), (2, .int (nI 0))], [.int (-1), .int (nI 0)], S)) rfl ?_
  refine x_icmp_ne 9 rfl rfl (fun h2 => ?_) (fun hn => absurd hn (by decide))
  refine run_ok 2 (c' := (11, [(0, .ref 48), (1, .int x), (2, .int (nI 0))], [.int x, .int (nI 0)], S)) rfl ?_
  refine x_icmp_ge 23 rfl rfl (fun h11 => ?_) (fun h11 => ?_)
  · refine run_ok 1 (c' := (24, [(0, .ref 48), (1, .int x), (2, .int (nI 0))], [.int (-1)], S)) rfl ?_
    exact x_ret (r := some (.int (-1))) rfl rfl trivial ⟨congrArg (fun z => some (Value.int z)) (ha (Int32.not_lt.mpr h11)).symm, rfl⟩ rfl
  · refine run_ok 3 (c' := (19, [(0, .ref 48), (1, .int x), (2, .int (nI 0))], [.int (nI 0), .ref 73], S)) rfl ?_
    refine x_iaN (a) rfl rfl (by decide) (by omega) (hr (Int32.not_le.mp h11)) ?_
    refine run_ok 1 (c' := (24, [(0, .ref 48), (1, .int x), (2, .int (nI 0))], [.int a], S)) rfl ?_
    exact x_ret (r := some (.int a)) rfl rfl trivial ⟨rfl, rfl⟩ rfl

theorem m_ofRow_1 (S : ST) (x a : Int32) (hr : nI 1 < x → S.1 73 1 = a) (ha : ¬ nI 1 < x → a = (-1)) : EX me_R_ofRow 0 [.ref 48, .int x, .int (nI 1)] S (fun r u => r = some (.int a) ∧ u = S) := by
  refine EX.of mok_R_ofRow (Nat.le_of_ble_eq_true rfl) ?_
  refine run_ok 2 (c' := (2, [(0, .ref 48), (1, .int x), (2, .int (nI 1))], [.int (-1), .int (nI 1)], S)) rfl ?_
  refine x_icmp_ne 9 rfl rfl (fun h2 => ?_) (fun hn => absurd hn (by decide))
  refine run_ok 2 (c' := (11, [(0, .ref 48), (1, .int x), (2, .int (nI 1))], [.int x, .int (nI 1)], S)) rfl ?_
  refine x_icmp_ge 23 rfl rfl (fun h11 => ?_) (fun h11 => ?_)
  · refine run_ok 1 (c' := (24, [(0, .ref 48), (1, .int x), (2, .int (nI 1))], [.int (-1)], S)) rfl ?_
    exact x_ret (r := some (.int (-1))) rfl rfl trivial ⟨congrArg (fun z => some (Value.int z)) (ha (Int32.not_lt.mpr h11)).symm, rfl⟩ rfl
  · refine run_ok 3 (c' := (19, [(0, .ref 48), (1, .int x), (2, .int (nI 1))], [.int (nI 1), .ref 73], S)) rfl ?_
    refine x_iaN (a) rfl rfl (by decide) (by omega) (hr (Int32.not_le.mp h11)) ?_
    refine run_ok 1 (c' := (24, [(0, .ref 48), (1, .int x), (2, .int (nI 1))], [.int a], S)) rfl ?_
    exact x_ret (r := some (.int a)) rfl rfl trivial ⟨rfl, rfl⟩ rfl

set_option maxHeartbeats 2000000 in
theorem m_spare_n (S : ST) (T : TD) (n : Nat) (b : Nat → Nat) (n' : Nat) (b' : Nat → Nat) (hL : ML T n b n' b' S) (hto : tok T)  : EX me_R_spare 8 [.ref 48, .int (-1)] S (fun r u => r = some (.int (spa T none)) ∧ QM S u) := by
  refine EX.of mok_R_spare (Nat.le_of_ble_eq_true rfl) ?_
  refine run_ok 3 (c' := (3, [(0, .ref 48), (1, .int (-1))], [.int (nI 1), .int (-1), .int (-1)], S)) rfl ?_
  refine x_callS [.int (-1), .int (-1), .int (nI 1)] rfl cs_R_in.1 lk_7_115 cs_R_in.2.1 rfl rfl (Nat.le_of_ble_eq_true rfl) (by decide) cs_R_in.2.2 (m_in S ((-1)) ((-1)) (nI 1)) ?_
  rintro r u ⟨hr, hu⟩
  rw [hr, hu]
  clear hr hu r u
  refine x_ifB_eq 21 rfl rfl (fun hn => absurd hn (fun z => z ⟨by decide, by decide⟩)) (fun h6 => ?_)
  refine run_ok 2 (c' := (11, [(0, .ref 48), (1, .int (-1))], [.ref 48, .ref 48], S)) rfl ?_
  refine x_callV [] rfl cv_R_spareBy.1 lk_7_278 cv_R_spareBy.2.1 cv_R_spareBy.2.2.1 rfl cv_R_spareBy.2.2.2.1 rfl rfl (Nat.le_of_ble_eq_true rfl) (by decide) cv_R_spareBy.2.2.2.2 (m_spareBy S T n b n' b' (hL.stay QM.rf) hto) ?_
  rintro r u1 ⟨hr, hp, ha, hqu1⟩
  rw [hr]
  clear hr r
  have hQu1 : QM S u1 := QM.rf.tr hqu1
  refine run_ok 1 (c' := (15, [(0, .ref 48), (1, .int (-1))], [.int (-1), .int (spa T none), .ref 48], u1)) rfl ?_
  refine x_callV [.int (spa T none), .int (-1)] rfl cv_R_ofRow.1 lk_7_281 cv_R_ofRow.2.1 cv_R_ofRow.2.2.1 rfl cv_R_ofRow.2.2.2.1 rfl rfl (Nat.le_of_ble_eq_true rfl) (by decide) cv_R_ofRow.2.2.2.2 (m_ofRow_n u1 (spa T none)) ?_
  rintro r z ⟨hr, hu⟩
  rw [hr, hu]
  clear hr hu r z
  refine run_ok 1 (c' := (23, [(0, .ref 48), (1, .int (-1))], [.int (spa T none)], u1)) rfl ?_
  exact x_ret (r := some (.int (spa T none))) rfl rfl trivial ⟨rfl, hQu1⟩ rfl

set_option maxHeartbeats 2000000 in
theorem m_spare_0 (S : ST) (T : TD) (n : Nat) (b : Nat → Nat) (n' : Nat) (b' : Nat → Nat) (hL : ML T n b n' b' S) (hto : tok T)  : EX me_R_spare 8 [.ref 48, .int (nI 0)] S (fun r u => r = some (.int (spa T (some 0))) ∧ QM S u) := by
  refine EX.of mok_R_spare (Nat.le_of_ble_eq_true rfl) ?_
  refine run_ok 3 (c' := (3, [(0, .ref 48), (1, .int (nI 0))], [.int (nI 1), .int (-1), .int (nI 0)], S)) rfl ?_
  refine x_callS [.int (nI 0), .int (-1), .int (nI 1)] rfl cs_R_in.1 lk_7_115 cs_R_in.2.1 rfl rfl (Nat.le_of_ble_eq_true rfl) (by decide) cs_R_in.2.2 (m_in S (nI 0) ((-1)) (nI 1)) ?_
  rintro r u ⟨hr, hu⟩
  rw [hr, hu]
  clear hr hu r u
  refine x_ifB_eq 21 rfl rfl (fun hn => absurd hn (fun z => z ⟨by decide, by decide⟩)) (fun h6 => ?_)
  refine run_ok 2 (c' := (11, [(0, .ref 48), (1, .int (nI 0))], [.ref 48, .ref 48], S)) rfl ?_
  refine x_callV [] rfl cv_R_spareBy.1 lk_7_278 cv_R_spareBy.2.1 cv_R_spareBy.2.2.1 rfl cv_R_spareBy.2.2.2.1 rfl rfl (Nat.le_of_ble_eq_true rfl) (by decide) cv_R_spareBy.2.2.2.2 (m_spareBy S T n b n' b' (hL.stay QM.rf) hto) ?_
  rintro r u1 ⟨hr, hp, ha, hqu1⟩
  rw [hr]
  clear hr r
  have hQu1 : QM S u1 := QM.rf.tr hqu1
  refine run_ok 1 (c' := (15, [(0, .ref 48), (1, .int (nI 0))], [.int (nI 0), .int (spa T none), .ref 48], u1)) rfl ?_
  refine x_callV [.int (spa T none), .int (nI 0)] rfl cv_R_ofRow.1 lk_7_281 cv_R_ofRow.2.1 cv_R_ofRow.2.2.1 rfl cv_R_ofRow.2.2.2.1 rfl rfl (Nat.le_of_ble_eq_true rfl) (by decide) cv_R_ofRow.2.2.2.2 (m_ofRow_0 u1 (spa T none) (spa T (some 0)) (hp 0 (by decide)) (ha 0 (by decide))) ?_
  rintro r z ⟨hr, hu⟩
  rw [hr, hu]
  clear hr hu r z
  refine run_ok 1 (c' := (23, [(0, .ref 48), (1, .int (nI 0))], [.int (spa T (some 0))], u1)) rfl ?_
  exact x_ret (r := some (.int (spa T (some 0)))) rfl rfl trivial ⟨rfl, hQu1⟩ rfl

set_option maxHeartbeats 2000000 in
theorem m_spare_1 (S : ST) (T : TD) (n : Nat) (b : Nat → Nat) (n' : Nat) (b' : Nat → Nat) (hL : ML T n b n' b' S) (hto : tok T)  : EX me_R_spare 8 [.ref 48, .int (nI 1)] S (fun r u => r = some (.int (spa T (some 1))) ∧ QM S u) := by
  refine EX.of mok_R_spare (Nat.le_of_ble_eq_true rfl) ?_
  refine run_ok 3 (c' := (3, [(0, .ref 48), (1, .int (nI 1))], [.int (nI 1), .int (-1), .int (nI 1)], S)) rfl ?_
  refine x_callS [.int (nI 1), .int (-1), .int (nI 1)] rfl cs_R_in.1 lk_7_115 cs_R_in.2.1 rfl rfl (Nat.le_of_ble_eq_true rfl) (by decide) cs_R_in.2.2 (m_in S (nI 1) ((-1)) (nI 1)) ?_
  rintro r u ⟨hr, hu⟩
  rw [hr, hu]
  clear hr hu r u
  refine x_ifB_eq 21 rfl rfl (fun hn => absurd hn (fun z => z ⟨by decide, by decide⟩)) (fun h6 => ?_)
  refine run_ok 2 (c' := (11, [(0, .ref 48), (1, .int (nI 1))], [.ref 48, .ref 48], S)) rfl ?_
  refine x_callV [] rfl cv_R_spareBy.1 lk_7_278 cv_R_spareBy.2.1 cv_R_spareBy.2.2.1 rfl cv_R_spareBy.2.2.2.1 rfl rfl (Nat.le_of_ble_eq_true rfl) (by decide) cv_R_spareBy.2.2.2.2 (m_spareBy S T n b n' b' (hL.stay QM.rf) hto) ?_
  rintro r u1 ⟨hr, hp, ha, hqu1⟩
  rw [hr]
  clear hr r
  have hQu1 : QM S u1 := QM.rf.tr hqu1
  refine run_ok 1 (c' := (15, [(0, .ref 48), (1, .int (nI 1))], [.int (nI 1), .int (spa T none), .ref 48], u1)) rfl ?_
  refine x_callV [.int (spa T none), .int (nI 1)] rfl cv_R_ofRow.1 lk_7_281 cv_R_ofRow.2.1 cv_R_ofRow.2.2.1 rfl cv_R_ofRow.2.2.2.1 rfl rfl (Nat.le_of_ble_eq_true rfl) (by decide) cv_R_ofRow.2.2.2.2 (m_ofRow_1 u1 (spa T none) (spa T (some 1)) (hp 1 (by decide)) (ha 1 (by decide))) ?_
  rintro r z ⟨hr, hu⟩
  rw [hr, hu]
  clear hr hu r z
  refine run_ok 1 (c' := (23, [(0, .ref 48), (1, .int (nI 1))], [.int (spa T (some 1))], u1)) rfl ?_
  exact x_ret (r := some (.int (spa T (some 1)))) rfl rfl trivial ⟨rfl, hQu1⟩ rfl

set_option maxHeartbeats 2000000 in
theorem m_spare_bad (S : ST) (T : TD) (n : Nat) (b : Nat → Nat) (n' : Nat) (b' : Nat → Nat) (hL : ML T n b n' b' S) (hto : tok T) (x : Int32) (hbad : ¬ ((-1) ≤ x ∧ x ≤ nI 1)) : EX me_R_spare 8 [.ref 48, .int x] S (fun r u => r = some (.int ((-2))) ∧ QM S u) := by
  refine EX.of mok_R_spare (Nat.le_of_ble_eq_true rfl) ?_
  refine run_ok 3 (c' := (3, [(0, .ref 48), (1, .int x)], [.int (nI 1), .int (-1), .int x], S)) rfl ?_
  refine x_callS [.int x, .int (-1), .int (nI 1)] rfl cs_R_in.1 lk_7_115 cs_R_in.2.1 rfl rfl (Nat.le_of_ble_eq_true rfl) (by decide) cs_R_in.2.2 (m_in S (x) ((-1)) (nI 1)) ?_
  rintro r u ⟨hr, hu⟩
  rw [hr, hu]
  clear hr hu r u
  refine x_ifB_eq 21 rfl rfl (fun h6 => ?_) (fun h6 => ?_)
  · refine run_ok 1 (c' := (23, [(0, .ref 48), (1, .int x)], [.int (-2)], S)) rfl ?_
    exact x_ret (r := some (.int (-2))) rfl rfl trivial ⟨rfl, QM.rf⟩ rfl
  · exact absurd h6 hbad

/-- what was seen, as the model keeps it -/
def SM (G : SD) (u : ST) : Prop := u.1 48 32 = nI G.1 ∧ rh u 74 G.1 G.2.1 ∧ rh u 75 G.1 G.2.2.1 ∧ rh u 76 G.1 G.2.2.2
theorem SM.keep {G : SD} {u v : ST} {ks : List Nat} (h : SM G u) (hf : fr ks u v) (hk : 74 ∉ ks ∧ 75 ∉ ks ∧ 76 ∉ ks) (h8 : v.1 48 32 = u.1 48 32) : SM G v := ⟨h8.trans h.1, h.2.1.keep hf hk.1, h.2.2.1.keep hf hk.2.1, h.2.2.2.keep hf hk.2.2⟩
theorem SM.stay {G : SD} {u v : ST} (h : SM G u) (hq : QM u v) : SM G v := h.keep hq.1 (by decide) (hq.2.1 32 (by decide))
set_option maxHeartbeats 2000000 in
theorem m_seen_ok (S : ST) (G : SD) (w b p : Nat) (hw : w < 24) (hb : b < 8) (hp : p < 9) (hg : SM G S) (hn8 : G.1 < 8) : EX me_R_seen 2 [.ref 48, .int (nI w), .int (nI b), .int (nI p)] S (fun r u => r = some (.int (nI (G.1 + 1))) ∧ SM (G.1 + 1, upn G.2.1 G.1 w, upn G.2.2.1 G.1 b, upn G.2.2.2 G.1 p) u ∧ fr [48, 74, 75, 76] S u ∧ f48 [32] S u ∧ u.2 = S.2) := by
  refine EX.of mok_R_seen (Nat.le_of_ble_eq_true rfl) ?_
  obtain ⟨g1, g2, g3, g4⟩ := id hg
  refine run_ok 1 (c' := (1, [(0, .ref 48), (1, .int (nI w)), (2, .int (nI b)), (3, .int (nI p))], [.int (nI w)], S)) rfl ?_
  refine x_callS [.int (nI w)] rfl cs_R_isWeek.1 lk_7_130 cs_R_isWeek.2.1 rfl rfl (Nat.le_of_ble_eq_true rfl) (by decide) cs_R_isWeek.2.2 (m_isWeek S (nI w)) ?_
  rintro r u ⟨hr, hu⟩
  rw [hr, hu]
  clear hr hu r u
  refine x_ifB_eq 24 rfl rfl (fun hn => absurd hn (fun z => z (inr_t hw (by decide)))) (fun h4 => ?_)
  refine run_ok 1 (c' := (8, [(0, .ref 48), (1, .int (nI w)), (2, .int (nI b)), (3, .int (nI p))], [.int (nI b)], S)) rfl ?_
  refine x_callS [.int (nI b)] rfl cs_R_isEight.1 lk_7_119 cs_R_isEight.2.1 rfl rfl (Nat.le_of_ble_eq_true rfl) (by decide) cs_R_isEight.2.2 (m_isEight S (nI b)) ?_
  rintro r u ⟨hr, hu⟩
  rw [hr, hu]
  clear hr hu r u
  refine x_ifB_eq 24 rfl rfl (fun hn => absurd hn (fun z => z (inr_t hb (by decide)))) (fun h11 => ?_)
  refine run_ok 3 (c' := (18, [(0, .ref 48), (1, .int (nI w)), (2, .int (nI b)), (3, .int (nI p))], [.int (nI 8), .int (nI 0), .int (nI p)], S)) rfl ?_
  refine x_callS [.int (nI p), .int (nI 0), .int (nI 8)] rfl cs_R_in.1 lk_7_115 cs_R_in.2.1 rfl rfl (Nat.le_of_ble_eq_true rfl) (by decide) cs_R_in.2.2 (m_in S (nI p) (nI 0) (nI 8)) ?_
  rintro r u ⟨hr, hu⟩
  rw [hr, hu]
  clear hr hu r u
  refine x_top (v' := b2 (0 ≤ nI p ∧ nI p < nI 9)) (b2_c (and_congr Iff.rfl (le_nI (n := 8) (by decide)))) ?_
  refine x_ifB_ne 27 rfl rfl (fun h21 => ?_) (fun hn => absurd (inr_t hp (by decide)) hn)
  refine run_ok 2 (c' := (31, [(0, .ref 48), (1, .int (nI w)), (2, .int (nI b)), (3, .int (nI p))], [.int (S.1 48 32)], S)) rfl ?_
  refine x_top (v' := nI G.1) g1 ?_
  refine run_ok 1 (c' := (33, [(0, .ref 48), (1, .int (nI w)), (2, .int (nI b)), (3, .int (nI p))], [.int (nI 8), .int (nI G.1)], S)) rfl ?_
  refine x_icmpN_ne 39 rfl rfl (by omega) (by omega) (fun h33 => ?_) (fun hn => absurd hn (by omega))
  refine run_ok 4 (c' := (47, [(0, .ref 48), (1, .int (nI w)), (2, .int (nI b)), (3, .int (nI p))], [.int (S.1 48 32), .ref 74], S)) rfl ?_
  refine x_top (v' := nI G.1) g1 ?_
  refine run_ok 1 (c' := (48, [(0, .ref 48), (1, .int (nI w)), (2, .int (nI b)), (3, .int (nI p))], [.int (nI w), .int (nI G.1), .ref 74], S)) rfl ?_
  refine x_isN rfl rfl (by decide) (by omega) ?_
  refine run_ok 4 (c' := (57, [(0, .ref 48), (1, .int (nI w)), (2, .int (nI b)), (3, .int (nI p))], [.int (S.1 48 32), .ref 75], (pt S 74 G.1 (nI w)))) rfl ?_
  refine x_top (v' := nI G.1) g1 ?_
  refine run_ok 1 (c' := (58, [(0, .ref 48), (1, .int (nI w)), (2, .int (nI b)), (3, .int (nI p))], [.int (nI b), .int (nI G.1), .ref 75], (pt S 74 G.1 (nI w)))) rfl ?_
  refine x_isN rfl rfl (by decide) (by omega) ?_
  refine run_ok 4 (c' := (67, [(0, .ref 48), (1, .int (nI w)), (2, .int (nI b)), (3, .int (nI p))], [.int (S.1 48 32), .ref 76], (pt (pt S 74 G.1 (nI w)) 75 G.1 (nI b)))) rfl ?_
  refine x_top (v' := nI G.1) g1 ?_
  refine run_ok 1 (c' := (68, [(0, .ref 48), (1, .int (nI w)), (2, .int (nI b)), (3, .int (nI p))], [.int (nI p), .int (nI G.1), .ref 76], (pt (pt S 74 G.1 (nI w)) 75 G.1 (nI b)))) rfl ?_
  refine x_isN rfl rfl (by decide) (by omega) ?_
  refine run_ok 3 (c' := (74, [(0, .ref 48), (1, .int (nI w)), (2, .int (nI b)), (3, .int (nI p))], [.int (S.1 48 32), .ref 48], (pt (pt (pt S 74 G.1 (nI w)) 75 G.1 (nI b)) 76 G.1 (nI p)))) rfl ?_
  refine x_top (v' := nI G.1) g1 ?_
  refine run_ok 2 (c' := (76, [(0, .ref 48), (1, .int (nI w)), (2, .int (nI b)), (3, .int (nI p))], [.int ((nI G.1) + (nI 1)), .ref 48], (pt (pt (pt S 74 G.1 (nI w)) 75 G.1 (nI b)) 76 G.1 (nI p)))) rfl ?_
  refine x_top (v' := nI (G.1 + 1)) (nI_add _ _) ?_
  refine run_ok 3 (c' := (83, [(0, .ref 48), (1, .int (nI w)), (2, .int (nI b)), (3, .int (nI p))], [.int (nI (G.1 + 1))], (pt (pt (pt (pt S 74 G.1 (nI w)) 75 G.1 (nI b)) 76 G.1 (nI p)) 48 32 (nI (G.1 + 1))))) rfl ?_
  exact x_ret (r := some (.int (nI (G.1 + 1)))) rfl rfl trivial ⟨rfl, ⟨rfl, (((rh.add g2 rfl).ne (by decide)).ne (by decide)).ne (by decide), ((rh.add (g3.ne (by decide)) rfl).ne (by decide)).ne (by decide), (rh.add ((g4.ne (by decide)).ne (by decide)) rfl).ne (by decide)⟩, ((((fr.rf.pt (by decide)).pt (by decide)).pt (by decide)).pt (by decide)), f48.put (fun _ _ => rfl) (by decide), rfl⟩ rfl

set_option maxHeartbeats 2000000 in
theorem m_seen_full (S : ST) (G : SD) (w b p : Nat) (hw : w < 24) (hb : b < 8) (hp : p < 9) (hg : SM G S) (hG : G.1 = 8) : EX me_R_seen 2 [.ref 48, .int (nI w), .int (nI b), .int (nI p)] S (fun r u => r = some (.int (-4)) ∧ u = S) := by
  refine EX.of mok_R_seen (Nat.le_of_ble_eq_true rfl) ?_
  obtain ⟨g1, g2, g3, g4⟩ := id hg
  refine run_ok 1 (c' := (1, [(0, .ref 48), (1, .int (nI w)), (2, .int (nI b)), (3, .int (nI p))], [.int (nI w)], S)) rfl ?_
  refine x_callS [.int (nI w)] rfl cs_R_isWeek.1 lk_7_130 cs_R_isWeek.2.1 rfl rfl (Nat.le_of_ble_eq_true rfl) (by decide) cs_R_isWeek.2.2 (m_isWeek S (nI w)) ?_
  rintro r u ⟨hr, hu⟩
  rw [hr, hu]
  clear hr hu r u
  refine x_ifB_eq 24 rfl rfl (fun hn => absurd hn (fun z => z (inr_t hw (by decide)))) (fun h4 => ?_)
  refine run_ok 1 (c' := (8, [(0, .ref 48), (1, .int (nI w)), (2, .int (nI b)), (3, .int (nI p))], [.int (nI b)], S)) rfl ?_
  refine x_callS [.int (nI b)] rfl cs_R_isEight.1 lk_7_119 cs_R_isEight.2.1 rfl rfl (Nat.le_of_ble_eq_true rfl) (by decide) cs_R_isEight.2.2 (m_isEight S (nI b)) ?_
  rintro r u ⟨hr, hu⟩
  rw [hr, hu]
  clear hr hu r u
  refine x_ifB_eq 24 rfl rfl (fun hn => absurd hn (fun z => z (inr_t hb (by decide)))) (fun h11 => ?_)
  refine run_ok 3 (c' := (18, [(0, .ref 48), (1, .int (nI w)), (2, .int (nI b)), (3, .int (nI p))], [.int (nI 8), .int (nI 0), .int (nI p)], S)) rfl ?_
  refine x_callS [.int (nI p), .int (nI 0), .int (nI 8)] rfl cs_R_in.1 lk_7_115 cs_R_in.2.1 rfl rfl (Nat.le_of_ble_eq_true rfl) (by decide) cs_R_in.2.2 (m_in S (nI p) (nI 0) (nI 8)) ?_
  rintro r u ⟨hr, hu⟩
  rw [hr, hu]
  clear hr hu r u
  refine x_top (v' := b2 (0 ≤ nI p ∧ nI p < nI 9)) (b2_c (and_congr Iff.rfl (le_nI (n := 8) (by decide)))) ?_
  refine x_ifB_ne 27 rfl rfl (fun h21 => ?_) (fun hn => absurd (inr_t hp (by decide)) hn)
  refine run_ok 2 (c' := (31, [(0, .ref 48), (1, .int (nI w)), (2, .int (nI b)), (3, .int (nI p))], [.int (S.1 48 32)], S)) rfl ?_
  refine x_top (v' := nI G.1) g1 ?_
  refine run_ok 1 (c' := (33, [(0, .ref 48), (1, .int (nI w)), (2, .int (nI b)), (3, .int (nI p))], [.int (nI 8), .int (nI G.1)], S)) rfl ?_
  refine x_icmpN_ne 39 rfl rfl (by omega) (by omega) (fun hn => absurd hG hn) (fun h33 => ?_)
  refine run_ok 1 (c' := (38, [(0, .ref 48), (1, .int (nI w)), (2, .int (nI b)), (3, .int (nI p))], [.int (-4)], S)) rfl ?_
  exact x_ret (r := some (.int (-4))) rfl rfl trivial ⟨rfl, rfl⟩ rfl

set_option maxHeartbeats 2000000 in
theorem m_seen_bad (S : ST) (x y z : Int32) (hbad : ¬ ((0 ≤ x ∧ x < nI 24) ∧ (0 ≤ y ∧ y < nI 8) ∧ (0 ≤ z ∧ z < nI 9))) : EX me_R_seen 2 [.ref 48, .int x, .int y, .int z] S (fun r u => r = some (.int (-2)) ∧ u = S) := by
  refine EX.of mok_R_seen (Nat.le_of_ble_eq_true rfl) ?_
  refine run_ok 1 (c' := (1, [(0, .ref 48), (1, .int x), (2, .int y), (3, .int z)], [.int x], S)) rfl ?_
  refine x_callS [.int x] rfl cs_R_isWeek.1 lk_7_130 cs_R_isWeek.2.1 rfl rfl (Nat.le_of_ble_eq_true rfl) (by decide) cs_R_isWeek.2.2 (m_isWeek S (x)) ?_
  rintro r u ⟨hr, hu⟩
  rw [hr, hu]
  clear hr hu r u
  refine x_ifB_eq 24 rfl rfl (fun h4 => ?_) (fun h4 => ?_)
  · refine run_ok 1 (c' := (26, [(0, .ref 48), (1, .int x), (2, .int y), (3, .int z)], [.int (-2)], S)) rfl ?_
    exact x_ret (r := some (.int (-2))) rfl rfl trivial ⟨rfl, rfl⟩ rfl
  · refine run_ok 1 (c' := (8, [(0, .ref 48), (1, .int x), (2, .int y), (3, .int z)], [.int y], S)) rfl ?_
    refine x_callS [.int y] rfl cs_R_isEight.1 lk_7_119 cs_R_isEight.2.1 rfl rfl (Nat.le_of_ble_eq_true rfl) (by decide) cs_R_isEight.2.2 (m_isEight S (y)) ?_
    rintro r u ⟨hr, hu⟩
    rw [hr, hu]
    clear hr hu r u
    refine x_ifB_eq 24 rfl rfl (fun h11 => ?_) (fun h11 => ?_)
    · refine run_ok 1 (c' := (26, [(0, .ref 48), (1, .int x), (2, .int y), (3, .int z)], [.int (-2)], S)) rfl ?_
      exact x_ret (r := some (.int (-2))) rfl rfl trivial ⟨rfl, rfl⟩ rfl
    · refine run_ok 3 (c' := (18, [(0, .ref 48), (1, .int x), (2, .int y), (3, .int z)], [.int (nI 8), .int (nI 0), .int z], S)) rfl ?_
      refine x_callS [.int z, .int (nI 0), .int (nI 8)] rfl cs_R_in.1 lk_7_115 cs_R_in.2.1 rfl rfl (Nat.le_of_ble_eq_true rfl) (by decide) cs_R_in.2.2 (m_in S (z) (nI 0) (nI 8)) ?_
      rintro r u ⟨hr, hu⟩
      rw [hr, hu]
      clear hr hu r u
      refine x_top (v' := b2 (0 ≤ z ∧ z < nI 9)) (b2_c (and_congr Iff.rfl (le_nI (n := 8) (by decide)))) ?_
      refine x_ifB_ne 27 rfl rfl (fun h21 => ?_) (fun h21 => ?_)
      · exact absurd ⟨h4, h11, h21⟩ hbad
      · refine run_ok 1 (c' := (26, [(0, .ref 48), (1, .int x), (2, .int y), (3, .int z)], [.int (-2)], S)) rfl ?_
        exact x_ret (r := some (.int (-2))) rfl rfl trivial ⟨rfl, rfl⟩ rfl

set_option maxHeartbeats 2000000 in
theorem m_forget (S : ST) (G : SD) (hg : SM G S) : EX me_R_forget 0 [.ref 48] S (fun r u => r = some (.int (nI G.1)) ∧ SM (0, G.2) u ∧ fr [48] S u ∧ f48 [32] S u ∧ u.2 = S.2) := by
  refine EX.of mok_R_forget (Nat.le_of_ble_eq_true rfl) ?_
  refine run_ok 2 (c' := (4, [(0, .ref 48)], [.int (S.1 48 32)], S)) rfl ?_
  refine x_top (v' := nI G.1) hg.1 ?_
  refine run_ok 5 (c' := (11, [(0, .ref 48), (1, .int (nI G.1))], [.int (nI G.1)], (pt S 48 32 (nI 0)))) rfl ?_
  exact x_ret (r := some (.int (nI G.1))) rfl rfl trivial ⟨rfl, ⟨rfl, fun j hj => absurd hj (Nat.not_lt_zero _), fun j hj => absurd hj (Nat.not_lt_zero _), fun j hj => absurd hj (Nat.not_lt_zero _)⟩, fr.rf.pt (by decide), f48.rf.put (by decide), rfl⟩ rfl


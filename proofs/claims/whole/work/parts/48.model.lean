/-! the model: the parts read -/
theorem fl_all {ok : Nat → Bool} : ∀ m j, (∀ i, j ≤ i → i < j + m → ok i = true) → fl ok m j = none := by
  intro m
  induction m with
  | zero => intro j _; rfl
  | succ m ih =>
    intro j h
    show (if ok j = true then fl ok m (j + 1) else some j) = none
    rw [if_pos (h j (Nat.le_refl _) (by omega))]
    exact ih (j + 1) (fun i h1 h2 => h i (by omega) (by omega))
theorem fl_at {ok : Nat → Bool} : ∀ m j x, j ≤ x → x < j + m → (∀ i, j ≤ i → i < x → ok i = true) → ok x = false → fl ok m j = some x := by
  intro m
  induction m with
  | zero => intro j x h1 h2; omega
  | succ m ih =>
    intro j x h1 h2 h3 h4
    show (if ok j = true then fl ok m (j + 1) else some j) = some x
    by_cases e : j = x
    · subst e
      rw [if_neg (by rw [h4]; decide)]
    · rw [if_pos (h3 j (Nat.le_refl _) (by omega))]
      exact ih (j + 1) x (by omega) (by omega) (fun i a1 a2 => h3 i (by omega) a2) h4
theorem flt_at {ok : Nat → Bool} {st n x : Nat} (hx : x ≤ n) (h : ∀ i, i < x → ok i = true) (h1 : x < n → ok x = false) (h2 : x = n → ¬ (n = 0 ∨ n % st = st - 1)) : flt ok st n = some x := by
  unfold flt
  by_cases e : x < n
  · rw [fl_at n 0 x (by omega) (by omega) (fun i _ hi => h i hi) (h1 e)]
  · have e2 : x = n := by omega
    rw [fl_all n 0 (fun i _ hi => h i (by omega))]
    show (if n = 0 ∨ n % st = st - 1 then none else some n) = _
    rw [if_neg (h2 e2), e2]
theorem flt_all {ok : Nat → Bool} {st n : Nat} (h : ∀ i, i < n → ok i = true) (h2 : n = 0 ∨ n % st = st - 1) : flt ok st n = none := by
  unfold flt
  rw [fl_all n 0 (fun i _ hi => h i (by omega))]
  show (if n = 0 ∨ n % st = st - 1 then none else some n) = _
  rw [if_pos h2]
theorem XM.keep {t n : Nat} {b : Nat → Nat} {u v : ST} {ks : List Nat} (h : XM t n b u) (hf : fr ks u v) (hk : 49 ∉ ks ∧ 50 ∉ ks) : XM t n b v := by
  obtain ⟨h1, h2, h3⟩ := h
  exact ⟨by rw [hf 49 hk.1]; exact h1, fun j hj => by rw [hf 50 hk.2]; exact h2 j hj, h3⟩
theorem f48.put {js : List Nat} {S u : ST} {j : Nat} {v : Int32} (h : f48 js S u) (hj : j ∈ js) : f48 js S (pt u 48 j v) := fun i hi => by
  rw [pt_at, upd_n (fun e => hi (by rw [e]; exact hj))]
  exact h i hi
theorem f48.same {js : List Nat} {S u : ST} {j : Nat} {v : Int32} (h : f48 js S u) (hv : v = u.1 48 j) : f48 js S (pt u 48 j v) := fun i hi => by
  rw [pt_at, hv]
  by_cases e : i = j
  · rw [e, upd_s, ← e]; exact h i hi
  · rw [upd_n e]; exact h i hi
theorem okh0 {b : Nat → Nat} {m : Nat} : okh b (4 * m) = true ↔ (48 ≤ b (4 * m) ∧ b (4 * m) ≤ 55) := by
  unfold okh
  rw [if_pos (by omega), decide_eq_true_eq]
theorem okh1 {b : Nat → Nat} {m : Nat} : okh b (4 * m + 1) = true ↔ ((48 ≤ b (4 * m + 1) ∧ b (4 * m + 1) ≤ 55) ∧ ¬ b (4 * m + 1) = b (4 * m)) := by
  unfold okh
  rw [if_neg (by omega), if_pos (by omega), decide_eq_true_eq]
  exact Iff.rfl
theorem okh2 {b : Nat → Nat} {m : Nat} : okh b (4 * m + 2) = true ↔ (49 ≤ b (4 * m + 2) ∧ b (4 * m + 2) ≤ 57) := by
  unfold okh
  rw [if_neg (by omega), if_neg (by omega), if_pos (by omega), decide_eq_true_eq]
theorem okh3 {b : Nat → Nat} {m : Nat} : okh b (4 * m + 3) = true ↔ b (4 * m + 3) = 59 := by
  unfold okh
  rw [if_neg (by omega), if_neg (by omega), if_neg (by omega), decide_eq_true_eq]
theorem okb0 {b : Nat → Nat} {m : Nat} : okb b (5 * m) = true ↔ ∃ s, sof (b (5 * m)) = some s := by
  unfold okb
  rw [if_pos (by omega), Option.isSome_iff_exists]
theorem okb1 {b : Nat → Nat} {m : Nat} : okb b (5 * m + 1) = true ↔ (48 ≤ b (5 * m + 1) ∧ b (5 * m + 1) ≤ 55) := by
  unfold okb
  rw [if_neg (by omega), if_pos (by omega), decide_eq_true_eq]
theorem okb2 {b : Nat → Nat} {m : Nat} : okb b (5 * m + 2) = true ↔ (97 ≤ b (5 * m + 2) ∧ b (5 * m + 2) ≤ 120) := by
  unfold okb
  rw [if_neg (by omega), if_neg (by omega), if_pos (by omega), decide_eq_true_eq]
theorem okb3 {b : Nat → Nat} {m : Nat} : okb b (5 * m + 3) = true ↔ (49 ≤ b (5 * m + 3) ∧ b (5 * m + 3) ≤ 57) := by
  unfold okb
  rw [if_neg (by omega), if_neg (by omega), if_neg (by omega), if_pos (by omega), decide_eq_true_eq]
theorem okb4 {b : Nat → Nat} {m : Nat} : okb b (5 * m + 4) = true ↔ b (5 * m + 4) = 59 := by
  unfold okb
  rw [if_neg (by omega), if_neg (by omega), if_neg (by omega), if_neg (by omega), decide_eq_true_eq]
theorem ok_s {ok : Nat → Bool} {x : Nat} (h : ∀ i, i < x → ok i = true) (h1 : ok x = true) : ∀ i, i < x + 1 → ok i = true := fun i hi => by
  by_cases e : i = x
  · rw [e]; exact h1
  · exact h i (by omega)
theorem bf {p : Bool} (h : ¬ p = true) : p = false := by simpa using h
def HW (b : Nat → Nat) (m : Nat) (u : ST) : Prop := ∀ i, i < m → u.1 51 (3 * i) = nI (b (4 * i) - 48) ∧ u.1 51 (3 * i + 1) = nI (b (4 * i + 1) - 48) ∧ u.1 51 (3 * i + 2) = nI (b (4 * i + 2) - 48)
def BW (b : Nat → Nat) (m : Nat) (u : ST) : Prop := rh u 53 m (fun i => (sof (b (5 * i))).getD 0) ∧ rh u 54 m (fun i => b (5 * i + 1) - 48) ∧ rh u 55 m (fun i => b (5 * i + 2) - 97) ∧ rh u 56 m (fun i => b (5 * i + 3) - 48)
theorem HW.next {b : Nat → Nat} {m : Nat} {u : ST} (h : HW b m u) : HW b (m + 1) (pt (pt (pt u 51 (3 * m) (nI (b (4 * m) - 48))) 51 (3 * m + 1) (nI (b (4 * m + 1) - 48))) 51 (3 * m + 2) (nI (b (4 * m + 2) - 48))) := by
  intro i hi
  show upd (upd (upd (u.1 51) (3 * m) _) (3 * m + 1) _) (3 * m + 2) _ (3 * i) = _ ∧ upd (upd (upd (u.1 51) (3 * m) _) (3 * m + 1) _) (3 * m + 2) _ (3 * i + 1) = _ ∧ upd (upd (upd (u.1 51) (3 * m) _) (3 * m + 1) _) (3 * m + 2) _ (3 * i + 2) = _
  by_cases e : i = m
  · subst e
    rw [upd_n (show 3 * i ≠ 3 * i + 2 by omega), upd_n (show 3 * i ≠ 3 * i + 1 by omega), upd_s, upd_n (show 3 * i + 1 ≠ 3 * i + 2 by omega), upd_s, upd_s]
    exact ⟨rfl, rfl, rfl⟩
  · rw [upd_n (show 3 * i ≠ 3 * m + 2 by omega), upd_n (show 3 * i ≠ 3 * m + 1 by omega), upd_n (show 3 * i ≠ 3 * m by omega), upd_n (show 3 * i + 1 ≠ 3 * m + 2 by omega), upd_n (show 3 * i + 1 ≠ 3 * m + 1 by omega), upd_n (show 3 * i + 1 ≠ 3 * m by omega), upd_n (show 3 * i + 2 ≠ 3 * m + 2 by omega), upd_n (show 3 * i + 2 ≠ 3 * m + 1 by omega), upd_n (show 3 * i + 2 ≠ 3 * m by omega)]
    exact h i (by omega)
theorem rh_next {u : ST} {k m : Nat} {f : Nat → Nat} {x : Int32} (h : rh u k m f) (hx : x = nI (f m)) : ∀ j, j < m + 1 → upd (u.1 k) m x j = nI (f j) := by
  intro j hj
  by_cases e : j = m
  · rw [e, upd_s]; exact hx
  · rw [upd_n e]; exact h j (by omega)
theorem BW.next {b : Nat → Nat} {m : Nat} {u : ST} (h : BW b m u) (hs : ∃ s, sof (b (5 * m)) = some s) : BW b (m + 1) (pt (pt (pt (pt u 53 m (spv (sof (b (5 * m))))) 54 m (nI (b (5 * m + 1) - 48))) 55 m (nI (b (5 * m + 2) - 97))) 56 m (nI (b (5 * m + 3) - 48))) := by
  obtain ⟨h1, h2, h3, h4⟩ := h
  obtain ⟨s, hs⟩ := hs
  exact ⟨rh_next h1 (by rw [hs]; rfl), rh_next h2 rfl, rh_next h3 rfl, rh_next h4 rfl⟩
def QP0 (S : ST) (n : Nat) (b : Nat → Nat) (r : Option Value) (u : ST) : Prop := r = some (.int (spv (flt (okh b) 4 n))) ∧ u.1 48 2 = nI (hcn n b) ∧ HW b (hcn n b) u ∧ fr [48, 51] S u ∧ f48 [2] S u ∧ u.2 = S.2
def QP1 (S : ST) (n : Nat) (b : Nat → Nat) (r : Option Value) (u : ST) : Prop := r = some (.int (spv (flt (okb b) 5 n))) ∧ u.1 48 5 = nI (bcn n b) ∧ BW b (bcn n b) u ∧ fr [48, 53, 54, 55, 56] S u ∧ f48 [5] S u ∧ u.2 = S.2
theorem QP0.bad {S u : ST} {n j : Nat} {b : Nat → Nat} (h : flt (okh b) 4 n = some j) (h1 : u.1 48 2 = nI 0) (h3 : fr [48, 51] S u) (h4 : f48 [2] S u) (h5 : u.2 = S.2) : QP0 S n b (some (.int (nI j))) u := by
  have e : hcn n b = 0 := if_neg (by rw [h]; exact fun z => by cases z)
  refine ⟨by rw [h]; rfl, by rw [e]; exact h1, ?_, h3, h4, h5⟩
  rw [e]
  exact fun i hi => absurd hi (Nat.not_lt_zero _)
theorem QP1.bad {S u : ST} {n j : Nat} {b : Nat → Nat} (h : flt (okb b) 5 n = some j) (h1 : u.1 48 5 = nI 0) (h3 : fr [48, 53, 54, 55, 56] S u) (h4 : f48 [5] S u) (h5 : u.2 = S.2) : QP1 S n b (some (.int (nI j))) u := by
  have e : bcn n b = 0 := if_neg (by rw [h]; exact fun z => by cases z)
  refine ⟨by rw [h]; rfl, by rw [e]; exact h1, ?_, h3, h4, h5⟩
  rw [e]
  exact ⟨fun i hi => absurd hi (Nat.not_lt_zero _), fun i hi => absurd hi (Nat.not_lt_zero _), fun i hi => absurd hi (Nat.not_lt_zero _), fun i hi => absurd hi (Nat.not_lt_zero _)⟩
theorem QP0.good {S u : ST} {n m : Nat} {b : Nat → Nat} (h : flt (okh b) 4 n = none) (hm : (n + 1) / 4 = m) (h1 : u.1 48 2 = nI m) (hw : HW b m u) (h3 : fr [48, 51] S u) (h4 : f48 [2] S u) (h5 : u.2 = S.2) : QP0 S n b (some (.int (-1))) u := by
  have e : hcn n b = m := (if_pos h).trans hm
  exact ⟨by rw [h]; rfl, by rw [e]; exact h1, by rw [e]; exact hw, h3, h4, h5⟩
theorem QP1.good {S u : ST} {n m : Nat} {b : Nat → Nat} (h : flt (okb b) 5 n = none) (hm : (n + 1) / 5 = m) (h1 : u.1 48 5 = nI m) (hw : BW b m u) (h3 : fr [48, 53, 54, 55, 56] S u) (h4 : f48 [5] S u) (h5 : u.2 = S.2) : QP1 S n b (some (.int (-1))) u := by
  have e : bcn n b = m := (if_pos h).trans hm
  exact ⟨by rw [h]; rfl, by rw [e]; exact h1, by rw [e]; exact hw, h3, h4, h5⟩
set_option maxHeartbeats 2000000 in
theorem m_readsParts0 (S : ST) (n : Nat) (b : Nat → Nat) (hX : XM 0 n b S) (hn : n ≤ 47) : EX me_R_readsParts 3 [.ref 48, .int (nI 0)] S (QP0 S n b) := by
  refine EX.of mok_R_readsParts (Nat.le_of_ble_eq_true rfl) ?_
  have H : ∀ m, m ≤ 12 → ∀ u : ST, 4 * m ≤ n → (∀ i, i < 4 * m → okh b i = true) → HW b m u → u.1 48 2 = nI 0 → fr [48, 51] S u → f48 [2] S u → u.2 = S.2 → BX me_R_readsParts 3 none (QP0 S n b) (48, [(0, .ref 48), (1, .int (nI 0)), (2, .int (nI 3)), (3, .int (nI m)), (4, .int (nI (4 * m)))], [], u) := by
    refine loop_up (P := fun m => ∀ u : ST, 4 * m ≤ n → (∀ i, i < 4 * m → okh b i = true) → HW b m u → u.1 48 2 = nI 0 → fr [48, 51] S u → f48 [2] S u → u.2 = S.2 → BX me_R_readsParts 3 none (QP0 S n b) (48, [(0, .ref 48), (1, .int (nI 0)), (2, .int (nI 3)), (3, .int (nI m)), (4, .int (nI (4 * m)))], [], u)) 12 ?_ ?_
    · intro u hm; omega
    · intro m hm ih u hmn hall hW hh hf h8 h2
      have hXu : XM 0 n b u := hX.keep hf (by decide)
      obtain ⟨x1, x2, x3⟩ := id hXu
      refine run_ok 4 (c' := (55, [(0, .ref 48), (1, .int (nI 0)), (2, .int (nI 3)), (3, .int (nI m)), (4, .int (nI (4 * m)))], [.int (nI 0), .ref 49, .int (nI (4 * m))], u)) rfl ?_
      refine x_iaN (nI n) rfl rfl (by decide) (by omega) x1 ?_
      refine x_icmpN_lt 64 rfl rfl (by omega) (by omega) (fun h56 => ?_) (fun h56 => ?_)
      · refine run_ok 1 (c' := (65, [(0, .ref 48), (1, .int (nI 0)), (2, .int (nI 3)), (3, .int (nI m)), (4, .int (nI (4 * m)))], [.int (nI 0)], u)) rfl ?_
        refine x_ifN_ne 78 rfl rfl (by omega) (fun hn => absurd hn (by decide)) (fun _ => ?_)
        refine run_ok 3 (c' := (72, [(0, .ref 48), (1, .int (nI 0)), (2, .int (nI 3)), (3, .int (nI m)), (4, .int (nI (4 * m)))], [.int (nI (4 * m)), .int (nI m), .ref 48], u)) rfl ?_
        refine x_callV [.int (nI m), .int (nI (4 * m))] rfl cv_R_readsHate.1 lk_7_140 cv_R_readsHate.2.1 cv_R_readsHate.2.2.1 rfl cv_R_readsHate.2.2.2.1 rfl rfl (Nat.le_of_ble_eq_true rfl) (by decide) cv_R_readsHate.2.2.2.2 (m_readsHate u n b hXu hn m (4 * m) hm (by omega)) ?_
        rintro r v hv
        rcases hv with ⟨hr, g0, hu⟩ | ⟨hr, o0, g1, hu⟩ | ⟨hr, o0, o1, g2, hu⟩ | ⟨hr, o0, o1, o2, hu⟩
        · rw [hr]
          clear hr r
          rw [hu]
          have s0 : ∀ i, i < 4 * m → okh b i = true := hall
          refine run_ok 4 (c' := (90, [(0, .ref 48), (1, .int (nI 0)), (2, .int (nI 3)), (3, .int (nI m)), (4, .int (nI (4 * m))), (5, .int (nI 0))], [.int (nI 3), .int (nI 0)], u)) rfl ?_
          refine x_icmpN_ge 99 rfl rfl (by omega) (by omega) (fun hn => absurd hn (by decide)) (fun _ => ?_)
          refine run_ok 3 (c' := (98, [(0, .ref 48), (1, .int (nI 0)), (2, .int (nI 3)), (3, .int (nI m)), (4, .int (nI (4 * m))), (5, .int (nI 0))], [.int ((nI (4 * m)) + (nI 0))], u)) rfl ?_
          refine x_top (v' := nI ((4 * m) + 0)) (nI_add _ _) ?_
          exact x_ret (r := some (.int (nI ((4 * m) + 0)))) rfl rfl trivial (QP0.bad (flt_at (x := 4 * m + 0) (by omega) s0 (fun hx => bf (fun z => g0 ⟨hx, okh0.mp z⟩)) (fun hx z => by omega)) hh hf h8 h2) rfl
        · rw [hr]
          clear hr r
          rw [hu]
          have s0 : ∀ i, i < 4 * m → okh b i = true := hall
          have s1 : ∀ i, i < 4 * m + 1 → okh b i = true := ok_s s0 (okh0.mpr o0.2)
          refine run_ok 4 (c' := (90, [(0, .ref 48), (1, .int (nI 0)), (2, .int (nI 3)), (3, .int (nI m)), (4, .int (nI (4 * m))), (5, .int (nI 1))], [.int (nI 3), .int (nI 1)], u)) rfl ?_
          refine x_icmpN_ge 99 rfl rfl (by omega) (by omega) (fun hn => absurd hn (by decide)) (fun _ => ?_)
          refine run_ok 3 (c' := (98, [(0, .ref 48), (1, .int (nI 0)), (2, .int (nI 3)), (3, .int (nI m)), (4, .int (nI (4 * m))), (5, .int (nI 1))], [.int ((nI (4 * m)) + (nI 1))], u)) rfl ?_
          refine x_top (v' := nI ((4 * m) + 1)) (nI_add _ _) ?_
          exact x_ret (r := some (.int (nI ((4 * m) + 1)))) rfl rfl trivial (QP0.bad (flt_at (x := 4 * m + 1) (by have := o0.1; omega) s1 (fun hx => bf (fun z => g1 ⟨hx, okh1.mp z⟩)) (fun hx z => by omega)) hh hf h8 h2) rfl
        · rw [hr]
          clear hr r
          rw [hu]
          have s0 : ∀ i, i < 4 * m → okh b i = true := hall
          have s1 : ∀ i, i < 4 * m + 1 → okh b i = true := ok_s s0 (okh0.mpr o0.2)
          have s2 : ∀ i, i < 4 * m + 2 → okh b i = true := ok_s s1 (okh1.mpr o1.2)
          refine run_ok 4 (c' := (90, [(0, .ref 48), (1, .int (nI 0)), (2, .int (nI 3)), (3, .int (nI m)), (4, .int (nI (4 * m))), (5, .int (nI 2))], [.int (nI 3), .int (nI 2)], u)) rfl ?_
          refine x_icmpN_ge 99 rfl rfl (by omega) (by omega) (fun hn => absurd hn (by decide)) (fun _ => ?_)
          refine run_ok 3 (c' := (98, [(0, .ref 48), (1, .int (nI 0)), (2, .int (nI 3)), (3, .int (nI m)), (4, .int (nI (4 * m))), (5, .int (nI 2))], [.int ((nI (4 * m)) + (nI 2))], u)) rfl ?_
          refine x_top (v' := nI ((4 * m) + 2)) (nI_add _ _) ?_
          exact x_ret (r := some (.int (nI ((4 * m) + 2)))) rfl rfl trivial (QP0.bad (flt_at (x := 4 * m + 2) (by have := o1.1; omega) s2 (fun hx => bf (fun z => g2 ⟨hx, okh2.mp z⟩)) (fun hx z => by omega)) hh hf h8 h2) rfl
        · rw [hr]
          clear hr r
          have s0 : ∀ i, i < 4 * m → okh b i = true := hall
          have s1 : ∀ i, i < 4 * m + 1 → okh b i = true := ok_s s0 (okh0.mpr o0.2)
          have s2 : ∀ i, i < 4 * m + 2 → okh b i = true := ok_s s1 (okh1.mpr o1.2)
          have s3 : ∀ i, i < 4 * m + 3 → okh b i = true := ok_s s2 (okh2.mpr o2.2)
          have hlt := o2.1
          have hfv : fr [48, 51] S v := by rw [hu]; exact (((hf.pt (by decide)).pt (by decide)).pt (by decide))
          have h8v : f48 [2] S v := by rw [hu]; exact h8
          have h2v : v.2 = S.2 := by rw [hu]; exact h2
          have hhv : v.1 48 2 = nI 0 := by rw [hu]; exact hh
          have hWv : HW b (m + 1) v := by rw [hu]; exact hW.next
          have hXv : XM 0 n b v := hX.keep hfv (by decide)
          obtain ⟨x1, x2, x3⟩ := id hXv
          refine run_ok 4 (c' := (90, [(0, .ref 48), (1, .int (nI 0)), (2, .int (nI 3)), (3, .int (nI m)), (4, .int (nI (4 * m))), (5, .int (nI 3))], [.int (nI 3), .int (nI 3)], v)) rfl ?_
          refine x_icmpN_ge 99 rfl rfl (by omega) (by omega) (fun _ => ?_) (fun hn => absurd hn (by decide))
          refine run_ok 1 (c' := (102, [(0, .ref 48), (1, .int (nI 0)), (2, .int (nI 3)), (3, .int (nI m + nI 1)), (4, .int (nI (4 * m))), (5, .int (nI 3))], [], v)) rfl ?_
          rw [nI_add m 1]
          refine run_ok 3 (c' := (106, [(0, .ref 48), (1, .int (nI 0)), (2, .int (nI 3)), (3, .int (nI (m + 1))), (4, .int (nI (4 * m))), (5, .int (nI 3))], [.int ((nI (4 * m)) + (nI 3))], v)) rfl ?_
          refine x_top (v' := nI ((4 * m) + 3)) (nI_add _ _) ?_
          refine run_ok 5 (c' := (115, [(0, .ref 48), (1, .int (nI 0)), (2, .int (nI 3)), (3, .int (nI (m + 1))), (4, .int (nI ((4 * m) + 3))), (5, .int (nI 3))], [.int (nI 0), .ref 49, .int (nI ((4 * m) + 3))], v)) rfl ?_
          refine x_iaN (nI n) rfl rfl (by decide) (by omega) x1 ?_
          refine x_icmpN_ne 154 rfl rfl (by omega) (by omega) (fun h116 => ?_) (fun h116 => ?_)
          · refine run_ok 3 (c' := (158, [(0, .ref 48), (1, .int (nI 0)), (2, .int (nI 3)), (3, .int (nI (m + 1))), (4, .int (nI ((4 * m) + 3))), (5, .int (nI 3))], [.int (nI ((4 * m) + 3)), .int (nI 0), .ref 48], v)) rfl ?_
            refine x_callV [.int (nI 0), .int (nI ((4 * m) + 3))] rfl cv_R_byteAt.1 lk_7_126 cv_R_byteAt.2.1 cv_R_byteAt.2.2.1 rfl cv_R_byteAt.2.2.2.1 rfl rfl (Nat.le_of_ble_eq_true rfl) (by decide) cv_R_byteAt.2.2.2.2 (m_byteAt0 v n b hXv hn (4 * m + 3) (by omega)) ?_
            rintro r z ⟨hr, hu⟩
            rw [hr, hu]
            clear hr r
            refine run_ok 1 (c' := (163, [(0, .ref 48), (1, .int (nI 0)), (2, .int (nI 3)), (3, .int (nI (m + 1))), (4, .int (nI ((4 * m) + 3))), (5, .int (nI 3))], [.int (nI 59), .int (ba n b (4 * m + 3))], v)) rfl ?_
            refine x_icmp_eq 169 rfl rfl (fun h163 => ?_) (fun h163 => ?_)
            · refine run_ok 1 (c' := (172, [(0, .ref 48), (1, .int (nI 0)), (2, .int (nI 3)), (3, .int (nI (m + 1))), (4, .int (nI ((4 * m) + 3) + nI 1)), (5, .int (nI 3))], [], v)) rfl ?_
              rw [nI_add ((4 * m) + 3) 1]
              refine run_ok 1 (c' := (48, [(0, .ref 48), (1, .int (nI 0)), (2, .int (nI 3)), (3, .int (nI (m + 1))), (4, .int (nI ((4 * m) + 3 + 1))), (5, .int (nI 3))], [], v)) rfl ?_
              refine x_less [0, 1, 2, 3, 4] rfl ?_
              have hn3 : 4 * m + 3 < n := by
                rcases Nat.lt_or_ge (4 * m + 3) n with h | h
                · exact h
                · omega
              have e59 : okh b (4 * m + 3) = true := okh3.mpr ((nI_eqI (by have := x3 _ hn3; omega) (by decide)).mp ((show ba n b (4 * m + 3) = nI (b (4 * m + 3)) from if_pos hn3).symm.trans h163))
              rw [show 4 * m + 3 + 1 = 4 * (m + 1) by omega]
              exact ih v (by omega) (fun i hi => ok_s s3 e59 i (by omega)) hWv hhv hfv h8v h2v
            · refine run_ok 1 (c' := (168, [(0, .ref 48), (1, .int (nI 0)), (2, .int (nI 3)), (3, .int (nI (m + 1))), (4, .int (nI ((4 * m) + 3))), (5, .int (nI 3))], [.int (nI ((4 * m) + 3))], v)) rfl ?_
              exact x_ret (r := some (.int (nI ((4 * m) + 3)))) rfl rfl trivial (QP0.bad (flt_at (by omega) s3 (fun hx => bf (fun z => h163 (show ba n b (4 * m + 3) = nI 59 by rw [show ba n b (4 * m + 3) = nI (b (4 * m + 3)) from if_pos hx, okh3.mp z]))) (fun hx z => by omega)) hhv hfv h8v h2v) rfl
          · refine run_ok 2 (c' := (121, [(0, .ref 48), (1, .int (nI 0)), (2, .int (nI 3)), (3, .int (nI (m + 1))), (4, .int (nI ((4 * m) + 3))), (5, .int (nI 3))], [.int (nI 0), .ref 48], v)) rfl ?_
            refine x_ifN_ne 128 rfl rfl (by omega) (fun hn => absurd hn (by decide)) (fun _ => ?_)
            refine run_ok 6 (c' := (138, [(0, .ref 48), (1, .int (nI 0)), (2, .int (nI 3)), (3, .int (nI (m + 1))), (4, .int (nI ((4 * m) + 3))), (5, .int (nI 3))], [.int (nI 1), .int (nI 0), .ref 48], (pt v 48 2 (nI (m + 1))))) rfl ?_
            refine x_icmpN_ne 145 rfl rfl (by omega) (by omega) (fun _ => ?_) (fun hn => absurd hn (by decide))
            refine run_ok 4 (c' := (153, [(0, .ref 48), (1, .int (nI 0)), (2, .int (nI 3)), (3, .int (nI (m + 1))), (4, .int (nI ((4 * m) + 3))), (5, .int (nI 3))], [.int (-1)], (pt (pt v 48 2 (nI (m + 1))) 48 5 (v.1 48 5)))) rfl ?_
            exact x_ret (r := some (.int (-1))) rfl rfl trivial (QP0.good (m := m + 1) (flt_all (fun i hi => s3 i (by omega)) (Or.inr (by omega))) (by omega) rfl hWv ((hfv.pt (by decide)).pt (by decide)) ((h8v.put (by decide)).same rfl) h2v) rfl
      · refine run_ok 1 (c' := (61, [(0, .ref 48), (1, .int (nI 0)), (2, .int (nI 3)), (3, .int (nI m)), (4, .int (nI (4 * m)))], [.int (nI (4 * m))], u)) rfl ?_
        refine x_ifN_le 175 rfl rfl (by omega) (fun h61 => ?_) (fun h61 => ?_)
        · refine run_ok 1 (c' := (176, [(0, .ref 48), (1, .int (nI 0)), (2, .int (nI 3)), (3, .int (nI m)), (4, .int (nI (4 * m)))], [.int (-1)], u)) rfl ?_
          exact x_ret (r := some (.int (-1))) rfl rfl trivial (QP0.good (m := m) (flt_all (fun i hi => absurd hi (by omega)) (Or.inl (by omega))) (by omega) (by rw [hh, show m = 0 by omega]) hW hf h8 h2) rfl
        · refine run_ok 1 (c' := (65, [(0, .ref 48), (1, .int (nI 0)), (2, .int (nI 3)), (3, .int (nI m)), (4, .int (nI (4 * m)))], [.int (nI 0)], u)) rfl ?_
          refine x_ifN_ne 78 rfl rfl (by omega) (fun hn => absurd hn (by decide)) (fun _ => ?_)
          refine run_ok 3 (c' := (72, [(0, .ref 48), (1, .int (nI 0)), (2, .int (nI 3)), (3, .int (nI m)), (4, .int (nI (4 * m)))], [.int (nI (4 * m)), .int (nI m), .ref 48], u)) rfl ?_
          refine x_callV [.int (nI m), .int (nI (4 * m))] rfl cv_R_readsHate.1 lk_7_140 cv_R_readsHate.2.1 cv_R_readsHate.2.2.1 rfl cv_R_readsHate.2.2.2.1 rfl rfl (Nat.le_of_ble_eq_true rfl) (by decide) cv_R_readsHate.2.2.2.2 (m_readsHate u n b hXu hn m (4 * m) hm (by omega)) ?_
          rintro r v hv
          rcases hv with ⟨hr, g0, hu⟩ | ⟨hr, o0, g1, hu⟩ | ⟨hr, o0, o1, g2, hu⟩ | ⟨hr, o0, o1, o2, hu⟩
          · rw [hr]
            clear hr r
            rw [hu]
            have s0 : ∀ i, i < 4 * m → okh b i = true := hall
            refine run_ok 4 (c' := (90, [(0, .ref 48), (1, .int (nI 0)), (2, .int (nI 3)), (3, .int (nI m)), (4, .int (nI (4 * m))), (5, .int (nI 0))], [.int (nI 3), .int (nI 0)], u)) rfl ?_
            refine x_icmpN_ge 99 rfl rfl (by omega) (by omega) (fun hn => absurd hn (by decide)) (fun _ => ?_)
            refine run_ok 3 (c' := (98, [(0, .ref 48), (1, .int (nI 0)), (2, .int (nI 3)), (3, .int (nI m)), (4, .int (nI (4 * m))), (5, .int (nI 0))], [.int ((nI (4 * m)) + (nI 0))], u)) rfl ?_
            refine x_top (v' := nI ((4 * m) + 0)) (nI_add _ _) ?_
            exact x_ret (r := some (.int (nI ((4 * m) + 0)))) rfl rfl trivial (QP0.bad (flt_at (x := 4 * m + 0) (by omega) s0 (fun hx => bf (fun z => g0 ⟨hx, okh0.mp z⟩)) (fun hx z => by omega)) hh hf h8 h2) rfl
          · rw [hr]
            clear hr r
            rw [hu]
            have s0 : ∀ i, i < 4 * m → okh b i = true := hall
            have s1 : ∀ i, i < 4 * m + 1 → okh b i = true := ok_s s0 (okh0.mpr o0.2)
            refine run_ok 4 (c' := (90, [(0, .ref 48), (1, .int (nI 0)), (2, .int (nI 3)), (3, .int (nI m)), (4, .int (nI (4 * m))), (5, .int (nI 1))], [.int (nI 3), .int (nI 1)], u)) rfl ?_
            refine x_icmpN_ge 99 rfl rfl (by omega) (by omega) (fun hn => absurd hn (by decide)) (fun _ => ?_)
            refine run_ok 3 (c' := (98, [(0, .ref 48), (1, .int (nI 0)), (2, .int (nI 3)), (3, .int (nI m)), (4, .int (nI (4 * m))), (5, .int (nI 1))], [.int ((nI (4 * m)) + (nI 1))], u)) rfl ?_
            refine x_top (v' := nI ((4 * m) + 1)) (nI_add _ _) ?_
            exact x_ret (r := some (.int (nI ((4 * m) + 1)))) rfl rfl trivial (QP0.bad (flt_at (x := 4 * m + 1) (by have := o0.1; omega) s1 (fun hx => bf (fun z => g1 ⟨hx, okh1.mp z⟩)) (fun hx z => by omega)) hh hf h8 h2) rfl
          · rw [hr]
            clear hr r
            rw [hu]
            have s0 : ∀ i, i < 4 * m → okh b i = true := hall
            have s1 : ∀ i, i < 4 * m + 1 → okh b i = true := ok_s s0 (okh0.mpr o0.2)
            have s2 : ∀ i, i < 4 * m + 2 → okh b i = true := ok_s s1 (okh1.mpr o1.2)
            refine run_ok 4 (c' := (90, [(0, .ref 48), (1, .int (nI 0)), (2, .int (nI 3)), (3, .int (nI m)), (4, .int (nI (4 * m))), (5, .int (nI 2))], [.int (nI 3), .int (nI 2)], u)) rfl ?_
            refine x_icmpN_ge 99 rfl rfl (by omega) (by omega) (fun hn => absurd hn (by decide)) (fun _ => ?_)
            refine run_ok 3 (c' := (98, [(0, .ref 48), (1, .int (nI 0)), (2, .int (nI 3)), (3, .int (nI m)), (4, .int (nI (4 * m))), (5, .int (nI 2))], [.int ((nI (4 * m)) + (nI 2))], u)) rfl ?_
            refine x_top (v' := nI ((4 * m) + 2)) (nI_add _ _) ?_
            exact x_ret (r := some (.int (nI ((4 * m) + 2)))) rfl rfl trivial (QP0.bad (flt_at (x := 4 * m + 2) (by have := o1.1; omega) s2 (fun hx => bf (fun z => g2 ⟨hx, okh2.mp z⟩)) (fun hx z => by omega)) hh hf h8 h2) rfl
          · rw [hr]
            clear hr r
            have s0 : ∀ i, i < 4 * m → okh b i = true := hall
            have s1 : ∀ i, i < 4 * m + 1 → okh b i = true := ok_s s0 (okh0.mpr o0.2)
            have s2 : ∀ i, i < 4 * m + 2 → okh b i = true := ok_s s1 (okh1.mpr o1.2)
            have s3 : ∀ i, i < 4 * m + 3 → okh b i = true := ok_s s2 (okh2.mpr o2.2)
            have hlt := o2.1
            have hfv : fr [48, 51] S v := by rw [hu]; exact (((hf.pt (by decide)).pt (by decide)).pt (by decide))
            have h8v : f48 [2] S v := by rw [hu]; exact h8
            have h2v : v.2 = S.2 := by rw [hu]; exact h2
            have hhv : v.1 48 2 = nI 0 := by rw [hu]; exact hh
            have hWv : HW b (m + 1) v := by rw [hu]; exact hW.next
            have hXv : XM 0 n b v := hX.keep hfv (by decide)
            obtain ⟨x1, x2, x3⟩ := id hXv
            refine run_ok 4 (c' := (90, [(0, .ref 48), (1, .int (nI 0)), (2, .int (nI 3)), (3, .int (nI m)), (4, .int (nI (4 * m))), (5, .int (nI 3))], [.int (nI 3), .int (nI 3)], v)) rfl ?_
            refine x_icmpN_ge 99 rfl rfl (by omega) (by omega) (fun _ => ?_) (fun hn => absurd hn (by decide))
            refine run_ok 1 (c' := (102, [(0, .ref 48), (1, .int (nI 0)), (2, .int (nI 3)), (3, .int (nI m + nI 1)), (4, .int (nI (4 * m))), (5, .int (nI 3))], [], v)) rfl ?_
            rw [nI_add m 1]
            refine run_ok 3 (c' := (106, [(0, .ref 48), (1, .int (nI 0)), (2, .int (nI 3)), (3, .int (nI (m + 1))), (4, .int (nI (4 * m))), (5, .int (nI 3))], [.int ((nI (4 * m)) + (nI 3))], v)) rfl ?_
            refine x_top (v' := nI ((4 * m) + 3)) (nI_add _ _) ?_
            refine run_ok 5 (c' := (115, [(0, .ref 48), (1, .int (nI 0)), (2, .int (nI 3)), (3, .int (nI (m + 1))), (4, .int (nI ((4 * m) + 3))), (5, .int (nI 3))], [.int (nI 0), .ref 49, .int (nI ((4 * m) + 3))], v)) rfl ?_
            refine x_iaN (nI n) rfl rfl (by decide) (by omega) x1 ?_
            refine x_icmpN_ne 154 rfl rfl (by omega) (by omega) (fun h116 => ?_) (fun h116 => ?_)
            · refine run_ok 3 (c' := (158, [(0, .ref 48), (1, .int (nI 0)), (2, .int (nI 3)), (3, .int (nI (m + 1))), (4, .int (nI ((4 * m) + 3))), (5, .int (nI 3))], [.int (nI ((4 * m) + 3)), .int (nI 0), .ref 48], v)) rfl ?_
              refine x_callV [.int (nI 0), .int (nI ((4 * m) + 3))] rfl cv_R_byteAt.1 lk_7_126 cv_R_byteAt.2.1 cv_R_byteAt.2.2.1 rfl cv_R_byteAt.2.2.2.1 rfl rfl (Nat.le_of_ble_eq_true rfl) (by decide) cv_R_byteAt.2.2.2.2 (m_byteAt0 v n b hXv hn (4 * m + 3) (by omega)) ?_
              rintro r z ⟨hr, hu⟩
              rw [hr, hu]
              clear hr r
              refine run_ok 1 (c' := (163, [(0, .ref 48), (1, .int (nI 0)), (2, .int (nI 3)), (3, .int (nI (m + 1))), (4, .int (nI ((4 * m) + 3))), (5, .int (nI 3))], [.int (nI 59), .int (ba n b (4 * m + 3))], v)) rfl ?_
              refine x_icmp_eq 169 rfl rfl (fun h163 => ?_) (fun h163 => ?_)
              · refine run_ok 1 (c' := (172, [(0, .ref 48), (1, .int (nI 0)), (2, .int (nI 3)), (3, .int (nI (m + 1))), (4, .int (nI ((4 * m) + 3) + nI 1)), (5, .int (nI 3))], [], v)) rfl ?_
                rw [nI_add ((4 * m) + 3) 1]
                refine run_ok 1 (c' := (48, [(0, .ref 48), (1, .int (nI 0)), (2, .int (nI 3)), (3, .int (nI (m + 1))), (4, .int (nI ((4 * m) + 3 + 1))), (5, .int (nI 3))], [], v)) rfl ?_
                refine x_less [0, 1, 2, 3, 4] rfl ?_
                have hn3 : 4 * m + 3 < n := by
                  rcases Nat.lt_or_ge (4 * m + 3) n with h | h
                  · exact h
                  · omega
                have e59 : okh b (4 * m + 3) = true := okh3.mpr ((nI_eqI (by have := x3 _ hn3; omega) (by decide)).mp ((show ba n b (4 * m + 3) = nI (b (4 * m + 3)) from if_pos hn3).symm.trans h163))
                rw [show 4 * m + 3 + 1 = 4 * (m + 1) by omega]
                exact ih v (by omega) (fun i hi => ok_s s3 e59 i (by omega)) hWv hhv hfv h8v h2v
              · refine run_ok 1 (c' := (168, [(0, .ref 48), (1, .int (nI 0)), (2, .int (nI 3)), (3, .int (nI (m + 1))), (4, .int (nI ((4 * m) + 3))), (5, .int (nI 3))], [.int (nI ((4 * m) + 3))], v)) rfl ?_
                exact x_ret (r := some (.int (nI ((4 * m) + 3)))) rfl rfl trivial (QP0.bad (flt_at (by omega) s3 (fun hx => bf (fun z => h163 (show ba n b (4 * m + 3) = nI 59 by rw [show ba n b (4 * m + 3) = nI (b (4 * m + 3)) from if_pos hx, okh3.mp z]))) (fun hx z => by omega)) hhv hfv h8v h2v) rfl
            · refine run_ok 2 (c' := (121, [(0, .ref 48), (1, .int (nI 0)), (2, .int (nI 3)), (3, .int (nI (m + 1))), (4, .int (nI ((4 * m) + 3))), (5, .int (nI 3))], [.int (nI 0), .ref 48], v)) rfl ?_
              refine x_ifN_ne 128 rfl rfl (by omega) (fun hn => absurd hn (by decide)) (fun _ => ?_)
              refine run_ok 6 (c' := (138, [(0, .ref 48), (1, .int (nI 0)), (2, .int (nI 3)), (3, .int (nI (m + 1))), (4, .int (nI ((4 * m) + 3))), (5, .int (nI 3))], [.int (nI 1), .int (nI 0), .ref 48], (pt v 48 2 (nI (m + 1))))) rfl ?_
              refine x_icmpN_ne 145 rfl rfl (by omega) (by omega) (fun _ => ?_) (fun hn => absurd hn (by decide))
              refine run_ok 4 (c' := (153, [(0, .ref 48), (1, .int (nI 0)), (2, .int (nI 3)), (3, .int (nI (m + 1))), (4, .int (nI ((4 * m) + 3))), (5, .int (nI 3))], [.int (-1)], (pt (pt v 48 2 (nI (m + 1))) 48 5 (v.1 48 5)))) rfl ?_
              exact x_ret (r := some (.int (-1))) rfl rfl trivial (QP0.good (m := m + 1) (flt_all (fun i hi => s3 i (by omega)) (Or.inr (by omega))) (by omega) rfl hWv ((hfv.pt (by decide)).pt (by decide)) ((h8v.put (by decide)).same rfl) h2v) rfl
  refine run_ok 1 (c' := (1, [(0, .ref 48), (1, .int (nI 0))], [.int (nI 0)], S)) rfl ?_
  refine x_ifN_ne 8 rfl rfl (by omega) (fun hn => absurd hn (by decide)) (fun _ => ?_)
  refine run_ok 9 (c' := (17, [(0, .ref 48), (1, .int (nI 0)), (2, .int (nI 3)), (3, .int (nI 0)), (4, .int (nI 0))], [.int (nI 0), .ref 48], S)) rfl ?_
  refine x_ifN_ne 24 rfl rfl (by omega) (fun hn => absurd hn (by decide)) (fun _ => ?_)
  refine run_ok 6 (c' := (34, [(0, .ref 48), (1, .int (nI 0)), (2, .int (nI 3)), (3, .int (nI 0)), (4, .int (nI 0))], [.int (nI 1), .int (nI 0), .ref 48], (pt S 48 2 (nI 0)))) rfl ?_
  refine x_icmpN_ne 41 rfl rfl (by omega) (by omega) (fun _ => ?_) (fun hn => absurd hn (by decide))
  refine run_ok 3 (c' := (48, [(0, .ref 48), (1, .int (nI 0)), (2, .int (nI 3)), (3, .int (nI 0)), (4, .int (nI 0))], [], (pt (pt S 48 2 (nI 0)) 48 5 (S.1 48 5)))) rfl ?_
  exact H 0 (by omega) _ (by omega) (fun i hi => absurd hi (Nat.not_lt_zero _)) (fun i hi => absurd hi (Nat.not_lt_zero _)) rfl ((fr.rf.pt (by decide)).pt (by decide)) ((f48.rf.put (by decide)).same rfl) rfl

set_option maxHeartbeats 2000000 in
theorem m_readsParts1 (S : ST) (n : Nat) (b : Nat → Nat) (hX : XM 1 n b S) (hn : n ≤ 39) : EX me_R_readsParts 3 [.ref 48, .int (nI 1)] S (QP1 S n b) := by
  refine EX.of mok_R_readsParts (Nat.le_of_ble_eq_true rfl) ?_
  have H : ∀ m, m ≤ 8 → ∀ u : ST, 5 * m ≤ n → (∀ i, i < 5 * m → okb b i = true) → BW b m u → u.1 48 5 = nI 0 → fr [48, 53, 54, 55, 56] S u → f48 [5] S u → u.2 = S.2 → BX me_R_readsParts 3 none (QP1 S n b) (48, [(0, .ref 48), (1, .int (nI 1)), (2, .int (nI 4)), (3, .int (nI m)), (4, .int (nI (5 * m)))], [], u) := by
    refine loop_up (P := fun m => ∀ u : ST, 5 * m ≤ n → (∀ i, i < 5 * m → okb b i = true) → BW b m u → u.1 48 5 = nI 0 → fr [48, 53, 54, 55, 56] S u → f48 [5] S u → u.2 = S.2 → BX me_R_readsParts 3 none (QP1 S n b) (48, [(0, .ref 48), (1, .int (nI 1)), (2, .int (nI 4)), (3, .int (nI m)), (4, .int (nI (5 * m)))], [], u)) 8 ?_ ?_
    · intro u hm; omega
    · intro m hm ih u hmn hall hW hh hf h8 h2
      have hXu : XM 1 n b u := hX.keep hf (by decide)
      obtain ⟨x1, x2, x3⟩ := id hXu
      refine run_ok 4 (c' := (55, [(0, .ref 48), (1, .int (nI 1)), (2, .int (nI 4)), (3, .int (nI m)), (4, .int (nI (5 * m)))], [.int (nI 1), .ref 49, .int (nI (5 * m))], u)) rfl ?_
      refine x_iaN (nI n) rfl rfl (by decide) (by omega) x1 ?_
      refine x_icmpN_lt 64 rfl rfl (by omega) (by omega) (fun h56 => ?_) (fun h56 => ?_)
      · refine run_ok 1 (c' := (65, [(0, .ref 48), (1, .int (nI 1)), (2, .int (nI 4)), (3, .int (nI m)), (4, .int (nI (5 * m)))], [.int (nI 1)], u)) rfl ?_
        refine x_ifN_ne 78 rfl rfl (by omega) (fun _ => ?_) (fun hn => absurd hn (by decide))
        refine run_ok 3 (c' := (82, [(0, .ref 48), (1, .int (nI 1)), (2, .int (nI 4)), (3, .int (nI m)), (4, .int (nI (5 * m)))], [.int (nI (5 * m)), .int (nI m), .ref 48], u)) rfl ?_
        refine x_callV [.int (nI m), .int (nI (5 * m))] rfl cv_R_readsBoat.1 lk_7_143 cv_R_readsBoat.2.1 cv_R_readsBoat.2.2.1 rfl cv_R_readsBoat.2.2.2.1 rfl rfl (Nat.le_of_ble_eq_true rfl) (by decide) cv_R_readsBoat.2.2.2.2 (m_readsBoat u n b hXu hn m (5 * m) hm (by omega)) ?_
        rintro r v hv
        rcases hv with ⟨hr, g0, hu⟩ | ⟨hr, o0, g1, hu⟩ | ⟨hr, o0, o1, g2, hu⟩ | ⟨hr, o0, o1, o2, g3, hu⟩ | ⟨hr, o0, o1, o2, o3, hu⟩
        · rw [hr]
          clear hr r
          rw [hu]
          have s0 : ∀ i, i < 5 * m → okb b i = true := hall
          refine run_ok 3 (c' := (90, [(0, .ref 48), (1, .int (nI 1)), (2, .int (nI 4)), (3, .int (nI m)), (4, .int (nI (5 * m))), (5, .int (nI 0))], [.int (nI 4), .int (nI 0)], u)) rfl ?_
          refine x_icmpN_ge 99 rfl rfl (by omega) (by omega) (fun hn => absurd hn (by decide)) (fun _ => ?_)
          refine run_ok 3 (c' := (98, [(0, .ref 48), (1, .int (nI 1)), (2, .int (nI 4)), (3, .int (nI m)), (4, .int (nI (5 * m))), (5, .int (nI 0))], [.int ((nI (5 * m)) + (nI 0))], u)) rfl ?_
          refine x_top (v' := nI ((5 * m) + 0)) (nI_add _ _) ?_
          exact x_ret (r := some (.int (nI ((5 * m) + 0)))) rfl rfl trivial (QP1.bad (flt_at (x := 5 * m + 0) (by omega) s0 (fun hx => bf (fun z => g0 ⟨hx, okb0.mp z⟩)) (fun hx z => by omega)) hh hf h8 h2) rfl
        · rw [hr]
          clear hr r
          rw [hu]
          have s0 : ∀ i, i < 5 * m → okb b i = true := hall
          have s1 : ∀ i, i < 5 * m + 1 → okb b i = true := ok_s s0 (okb0.mpr o0.2)
          refine run_ok 3 (c' := (90, [(0, .ref 48), (1, .int (nI 1)), (2, .int (nI 4)), (3, .int (nI m)), (4, .int (nI (5 * m))), (5, .int (nI 1))], [.int (nI 4), .int (nI 1)], u)) rfl ?_
          refine x_icmpN_ge 99 rfl rfl (by omega) (by omega) (fun hn => absurd hn (by decide)) (fun _ => ?_)
          refine run_ok 3 (c' := (98, [(0, .ref 48), (1, .int (nI 1)), (2, .int (nI 4)), (3, .int (nI m)), (4, .int (nI (5 * m))), (5, .int (nI 1))], [.int ((nI (5 * m)) + (nI 1))], u)) rfl ?_
          refine x_top (v' := nI ((5 * m) + 1)) (nI_add _ _) ?_
          exact x_ret (r := some (.int (nI ((5 * m) + 1)))) rfl rfl trivial (QP1.bad (flt_at (x := 5 * m + 1) (by have := o0.1; omega) s1 (fun hx => bf (fun z => g1 ⟨hx, okb1.mp z⟩)) (fun hx z => by omega)) hh hf h8 h2) rfl
        · rw [hr]
          clear hr r
          rw [hu]
          have s0 : ∀ i, i < 5 * m → okb b i = true := hall
          have s1 : ∀ i, i < 5 * m + 1 → okb b i = true := ok_s s0 (okb0.mpr o0.2)
          have s2 : ∀ i, i < 5 * m + 2 → okb b i = true := ok_s s1 (okb1.mpr o1.2)
          refine run_ok 3 (c' := (90, [(0, .ref 48), (1, .int (nI 1)), (2, .int (nI 4)), (3, .int (nI m)), (4, .int (nI (5 * m))), (5, .int (nI 2))], [.int (nI 4), .int (nI 2)], u)) rfl ?_
          refine x_icmpN_ge 99 rfl rfl (by omega) (by omega) (fun hn => absurd hn (by decide)) (fun _ => ?_)
          refine run_ok 3 (c' := (98, [(0, .ref 48), (1, .int (nI 1)), (2, .int (nI 4)), (3, .int (nI m)), (4, .int (nI (5 * m))), (5, .int (nI 2))], [.int ((nI (5 * m)) + (nI 2))], u)) rfl ?_
          refine x_top (v' := nI ((5 * m) + 2)) (nI_add _ _) ?_
          exact x_ret (r := some (.int (nI ((5 * m) + 2)))) rfl rfl trivial (QP1.bad (flt_at (x := 5 * m + 2) (by have := o1.1; omega) s2 (fun hx => bf (fun z => g2 ⟨hx, okb2.mp z⟩)) (fun hx z => by omega)) hh hf h8 h2) rfl
        · rw [hr]
          clear hr r
          rw [hu]
          have s0 : ∀ i, i < 5 * m → okb b i = true := hall
          have s1 : ∀ i, i < 5 * m + 1 → okb b i = true := ok_s s0 (okb0.mpr o0.2)
          have s2 : ∀ i, i < 5 * m + 2 → okb b i = true := ok_s s1 (okb1.mpr o1.2)
          have s3 : ∀ i, i < 5 * m + 3 → okb b i = true := ok_s s2 (okb2.mpr o2.2)
          refine run_ok 3 (c' := (90, [(0, .ref 48), (1, .int (nI 1)), (2, .int (nI 4)), (3, .int (nI m)), (4, .int (nI (5 * m))), (5, .int (nI 3))], [.int (nI 4), .int (nI 3)], u)) rfl ?_
          refine x_icmpN_ge 99 rfl rfl (by omega) (by omega) (fun hn => absurd hn (by decide)) (fun _ => ?_)
          refine run_ok 3 (c' := (98, [(0, .ref 48), (1, .int (nI 1)), (2, .int (nI 4)), (3, .int (nI m)), (4, .int (nI (5 * m))), (5, .int (nI 3))], [.int ((nI (5 * m)) + (nI 3))], u)) rfl ?_
          refine x_top (v' := nI ((5 * m) + 3)) (nI_add _ _) ?_
          exact x_ret (r := some (.int (nI ((5 * m) + 3)))) rfl rfl trivial (QP1.bad (flt_at (x := 5 * m + 3) (by have := o2.1; omega) s3 (fun hx => bf (fun z => g3 ⟨hx, okb3.mp z⟩)) (fun hx z => by omega)) hh hf h8 h2) rfl
        · rw [hr]
          clear hr r
          have s0 : ∀ i, i < 5 * m → okb b i = true := hall
          have s1 : ∀ i, i < 5 * m + 1 → okb b i = true := ok_s s0 (okb0.mpr o0.2)
          have s2 : ∀ i, i < 5 * m + 2 → okb b i = true := ok_s s1 (okb1.mpr o1.2)
          have s3 : ∀ i, i < 5 * m + 3 → okb b i = true := ok_s s2 (okb2.mpr o2.2)
          have s4 : ∀ i, i < 5 * m + 4 → okb b i = true := ok_s s3 (okb3.mpr o3.2)
          have hlt := o3.1
          have hfv : fr [48, 53, 54, 55, 56] S v := by rw [hu]; exact ((((hf.pt (by decide)).pt (by decide)).pt (by decide)).pt (by decide))
          have h8v : f48 [5] S v := by rw [hu]; exact h8
          have h2v : v.2 = S.2 := by rw [hu]; exact h2
          have hhv : v.1 48 5 = nI 0 := by rw [hu]; exact hh
          have hWv : BW b (m + 1) v := by rw [hu]; exact hW.next o0.2
          have hXv : XM 1 n b v := hX.keep hfv (by decide)
          obtain ⟨x1, x2, x3⟩ := id hXv
          refine run_ok 3 (c' := (90, [(0, .ref 48), (1, .int (nI 1)), (2, .int (nI 4)), (3, .int (nI m)), (4, .int (nI (5 * m))), (5, .int (nI 4))], [.int (nI 4), .int (nI 4)], v)) rfl ?_
          refine x_icmpN_ge 99 rfl rfl (by omega) (by omega) (fun _ => ?_) (fun hn => absurd hn (by decide))
          refine run_ok 1 (c' := (102, [(0, .ref 48), (1, .int (nI 1)), (2, .int (nI 4)), (3, .int (nI m + nI 1)), (4, .int (nI (5 * m))), (5, .int (nI 4))], [], v)) rfl ?_
          rw [nI_add m 1]
          refine run_ok 3 (c' := (106, [(0, .ref 48), (1, .int (nI 1)), (2, .int (nI 4)), (3, .int (nI (m + 1))), (4, .int (nI (5 * m))), (5, .int (nI 4))], [.int ((nI (5 * m)) + (nI 4))], v)) rfl ?_
          refine x_top (v' := nI ((5 * m) + 4)) (nI_add _ _) ?_
          refine run_ok 5 (c' := (115, [(0, .ref 48), (1, .int (nI 1)), (2, .int (nI 4)), (3, .int (nI (m + 1))), (4, .int (nI ((5 * m) + 4))), (5, .int (nI 4))], [.int (nI 1), .ref 49, .int (nI ((5 * m) + 4))], v)) rfl ?_
          refine x_iaN (nI n) rfl rfl (by decide) (by omega) x1 ?_
          refine x_icmpN_ne 154 rfl rfl (by omega) (by omega) (fun h116 => ?_) (fun h116 => ?_)
          · refine run_ok 3 (c' := (158, [(0, .ref 48), (1, .int (nI 1)), (2, .int (nI 4)), (3, .int (nI (m + 1))), (4, .int (nI ((5 * m) + 4))), (5, .int (nI 4))], [.int (nI ((5 * m) + 4)), .int (nI 1), .ref 48], v)) rfl ?_
            refine x_callV [.int (nI 1), .int (nI ((5 * m) + 4))] rfl cv_R_byteAt.1 lk_7_126 cv_R_byteAt.2.1 cv_R_byteAt.2.2.1 rfl cv_R_byteAt.2.2.2.1 rfl rfl (Nat.le_of_ble_eq_true rfl) (by decide) cv_R_byteAt.2.2.2.2 (m_byteAt1 v n b hXv hn (5 * m + 4) (by omega)) ?_
            rintro r z ⟨hr, hu⟩
            rw [hr, hu]
            clear hr r
            refine run_ok 1 (c' := (163, [(0, .ref 48), (1, .int (nI 1)), (2, .int (nI 4)), (3, .int (nI (m + 1))), (4, .int (nI ((5 * m) + 4))), (5, .int (nI 4))], [.int (nI 59), .int (ba n b (5 * m + 4))], v)) rfl ?_
            refine x_icmp_eq 169 rfl rfl (fun h163 => ?_) (fun h163 => ?_)
            · refine run_ok 1 (c' := (172, [(0, .ref 48), (1, .int (nI 1)), (2, .int (nI 4)), (3, .int (nI (m + 1))), (4, .int (nI ((5 * m) + 4) + nI 1)), (5, .int (nI 4))], [], v)) rfl ?_
              rw [nI_add ((5 * m) + 4) 1]
              refine run_ok 1 (c' := (48, [(0, .ref 48), (1, .int (nI 1)), (2, .int (nI 4)), (3, .int (nI (m + 1))), (4, .int (nI ((5 * m) + 4 + 1))), (5, .int (nI 4))], [], v)) rfl ?_
              refine x_less [0, 1, 2, 3, 4] rfl ?_
              have hn3 : 5 * m + 4 < n := by
                rcases Nat.lt_or_ge (5 * m + 4) n with h | h
                · exact h
                · omega
              have e59 : okb b (5 * m + 4) = true := okb4.mpr ((nI_eqI (by have := x3 _ hn3; omega) (by decide)).mp ((show ba n b (5 * m + 4) = nI (b (5 * m + 4)) from if_pos hn3).symm.trans h163))
              rw [show 5 * m + 4 + 1 = 5 * (m + 1) by omega]
              exact ih v (by omega) (fun i hi => ok_s s4 e59 i (by omega)) hWv hhv hfv h8v h2v
            · refine run_ok 1 (c' := (168, [(0, .ref 48), (1, .int (nI 1)), (2, .int (nI 4)), (3, .int (nI (m + 1))), (4, .int (nI ((5 * m) + 4))), (5, .int (nI 4))], [.int (nI ((5 * m) + 4))], v)) rfl ?_
              exact x_ret (r := some (.int (nI ((5 * m) + 4)))) rfl rfl trivial (QP1.bad (flt_at (by omega) s4 (fun hx => bf (fun z => h163 (show ba n b (5 * m + 4) = nI 59 by rw [show ba n b (5 * m + 4) = nI (b (5 * m + 4)) from if_pos hx, okb4.mp z]))) (fun hx z => by omega)) hhv hfv h8v h2v) rfl
          · refine run_ok 2 (c' := (121, [(0, .ref 48), (1, .int (nI 1)), (2, .int (nI 4)), (3, .int (nI (m + 1))), (4, .int (nI ((5 * m) + 4))), (5, .int (nI 4))], [.int (nI 1), .ref 48], v)) rfl ?_
            refine x_ifN_ne 128 rfl rfl (by omega) (fun _ => ?_) (fun hn => absurd hn (by decide))
            refine run_ok 6 (c' := (138, [(0, .ref 48), (1, .int (nI 1)), (2, .int (nI 4)), (3, .int (nI (m + 1))), (4, .int (nI ((5 * m) + 4))), (5, .int (nI 4))], [.int (nI 1), .int (nI 1), .ref 48], (pt v 48 2 (v.1 48 2)))) rfl ?_
            refine x_icmpN_ne 145 rfl rfl (by omega) (by omega) (fun hn => absurd hn (by decide)) (fun _ => ?_)
            refine run_ok 4 (c' := (153, [(0, .ref 48), (1, .int (nI 1)), (2, .int (nI 4)), (3, .int (nI (m + 1))), (4, .int (nI ((5 * m) + 4))), (5, .int (nI 4))], [.int (-1)], (pt (pt v 48 2 (v.1 48 2)) 48 5 (nI (m + 1))))) rfl ?_
            exact x_ret (r := some (.int (-1))) rfl rfl trivial (QP1.good (m := m + 1) (flt_all (fun i hi => s4 i (by omega)) (Or.inr (by omega))) (by omega) rfl hWv ((hfv.pt (by decide)).pt (by decide)) ((h8v.same rfl).put (by decide)) h2v) rfl
      · refine run_ok 1 (c' := (61, [(0, .ref 48), (1, .int (nI 1)), (2, .int (nI 4)), (3, .int (nI m)), (4, .int (nI (5 * m)))], [.int (nI (5 * m))], u)) rfl ?_
        refine x_ifN_le 175 rfl rfl (by omega) (fun h61 => ?_) (fun h61 => ?_)
        · refine run_ok 1 (c' := (176, [(0, .ref 48), (1, .int (nI 1)), (2, .int (nI 4)), (3, .int (nI m)), (4, .int (nI (5 * m)))], [.int (-1)], u)) rfl ?_
          exact x_ret (r := some (.int (-1))) rfl rfl trivial (QP1.good (m := m) (flt_all (fun i hi => absurd hi (by omega)) (Or.inl (by omega))) (by omega) (by rw [hh, show m = 0 by omega]) hW hf h8 h2) rfl
        · refine run_ok 1 (c' := (65, [(0, .ref 48), (1, .int (nI 1)), (2, .int (nI 4)), (3, .int (nI m)), (4, .int (nI (5 * m)))], [.int (nI 1)], u)) rfl ?_
          refine x_ifN_ne 78 rfl rfl (by omega) (fun _ => ?_) (fun hn => absurd hn (by decide))
          refine run_ok 3 (c' := (82, [(0, .ref 48), (1, .int (nI 1)), (2, .int (nI 4)), (3, .int (nI m)), (4, .int (nI (5 * m)))], [.int (nI (5 * m)), .int (nI m), .ref 48], u)) rfl ?_
          refine x_callV [.int (nI m), .int (nI (5 * m))] rfl cv_R_readsBoat.1 lk_7_143 cv_R_readsBoat.2.1 cv_R_readsBoat.2.2.1 rfl cv_R_readsBoat.2.2.2.1 rfl rfl (Nat.le_of_ble_eq_true rfl) (by decide) cv_R_readsBoat.2.2.2.2 (m_readsBoat u n b hXu hn m (5 * m) hm (by omega)) ?_
          rintro r v hv
          rcases hv with ⟨hr, g0, hu⟩ | ⟨hr, o0, g1, hu⟩ | ⟨hr, o0, o1, g2, hu⟩ | ⟨hr, o0, o1, o2, g3, hu⟩ | ⟨hr, o0, o1, o2, o3, hu⟩
          · rw [hr]
            clear hr r
            rw [hu]
            have s0 : ∀ i, i < 5 * m → okb b i = true := hall
            refine run_ok 3 (c' := (90, [(0, .ref 48), (1, .int (nI 1)), (2, .int (nI 4)), (3, .int (nI m)), (4, .int (nI (5 * m))), (5, .int (nI 0))], [.int (nI 4), .int (nI 0)], u)) rfl ?_
            refine x_icmpN_ge 99 rfl rfl (by omega) (by omega) (fun hn => absurd hn (by decide)) (fun _ => ?_)
            refine run_ok 3 (c' := (98, [(0, .ref 48), (1, .int (nI 1)), (2, .int (nI 4)), (3, .int (nI m)), (4, .int (nI (5 * m))), (5, .int (nI 0))], [.int ((nI (5 * m)) + (nI 0))], u)) rfl ?_
            refine x_top (v' := nI ((5 * m) + 0)) (nI_add _ _) ?_
            exact x_ret (r := some (.int (nI ((5 * m) + 0)))) rfl rfl trivial (QP1.bad (flt_at (x := 5 * m + 0) (by omega) s0 (fun hx => bf (fun z => g0 ⟨hx, okb0.mp z⟩)) (fun hx z => by omega)) hh hf h8 h2) rfl
          · rw [hr]
            clear hr r
            rw [hu]
            have s0 : ∀ i, i < 5 * m → okb b i = true := hall
            have s1 : ∀ i, i < 5 * m + 1 → okb b i = true := ok_s s0 (okb0.mpr o0.2)
            refine run_ok 3 (c' := (90, [(0, .ref 48), (1, .int (nI 1)), (2, .int (nI 4)), (3, .int (nI m)), (4, .int (nI (5 * m))), (5, .int (nI 1))], [.int (nI 4), .int (nI 1)], u)) rfl ?_
            refine x_icmpN_ge 99 rfl rfl (by omega) (by omega) (fun hn => absurd hn (by decide)) (fun _ => ?_)
            refine run_ok 3 (c' := (98, [(0, .ref 48), (1, .int (nI 1)), (2, .int (nI 4)), (3, .int (nI m)), (4, .int (nI (5 * m))), (5, .int (nI 1))], [.int ((nI (5 * m)) + (nI 1))], u)) rfl ?_
            refine x_top (v' := nI ((5 * m) + 1)) (nI_add _ _) ?_
            exact x_ret (r := some (.int (nI ((5 * m) + 1)))) rfl rfl trivial (QP1.bad (flt_at (x := 5 * m + 1) (by have := o0.1; omega) s1 (fun hx => bf (fun z => g1 ⟨hx, okb1.mp z⟩)) (fun hx z => by omega)) hh hf h8 h2) rfl
          · rw [hr]
            clear hr r
            rw [hu]
            have s0 : ∀ i, i < 5 * m → okb b i = true := hall
            have s1 : ∀ i, i < 5 * m + 1 → okb b i = true := ok_s s0 (okb0.mpr o0.2)
            have s2 : ∀ i, i < 5 * m + 2 → okb b i = true := ok_s s1 (okb1.mpr o1.2)
            refine run_ok 3 (c' := (90, [(0, .ref 48), (1, .int (nI 1)), (2, .int (nI 4)), (3, .int (nI m)), (4, .int (nI (5 * m))), (5, .int (nI 2))], [.int (nI 4), .int (nI 2)], u)) rfl ?_
            refine x_icmpN_ge 99 rfl rfl (by omega) (by omega) (fun hn => absurd hn (by decide)) (fun _ => ?_)
            refine run_ok 3 (c' := (98, [(0, .ref 48), (1, .int (nI 1)), (2, .int (nI 4)), (3, .int (nI m)), (4, .int (nI (5 * m))), (5, .int (nI 2))], [.int ((nI (5 * m)) + (nI 2))], u)) rfl ?_
            refine x_top (v' := nI ((5 * m) + 2)) (nI_add _ _) ?_
            exact x_ret (r := some (.int (nI ((5 * m) + 2)))) rfl rfl trivial (QP1.bad (flt_at (x := 5 * m + 2) (by have := o1.1; omega) s2 (fun hx => bf (fun z => g2 ⟨hx, okb2.mp z⟩)) (fun hx z => by omega)) hh hf h8 h2) rfl
          · rw [hr]
            clear hr r
            rw [hu]
            have s0 : ∀ i, i < 5 * m → okb b i = true := hall
            have s1 : ∀ i, i < 5 * m + 1 → okb b i = true := ok_s s0 (okb0.mpr o0.2)
            have s2 : ∀ i, i < 5 * m + 2 → okb b i = true := ok_s s1 (okb1.mpr o1.2)
            have s3 : ∀ i, i < 5 * m + 3 → okb b i = true := ok_s s2 (okb2.mpr o2.2)
            refine run_ok 3 (c' := (90, [(0, .ref 48), (1, .int (nI 1)), (2, .int (nI 4)), (3, .int (nI m)), (4, .int (nI (5 * m))), (5, .int (nI 3))], [.int (nI 4), .int (nI 3)], u)) rfl ?_
            refine x_icmpN_ge 99 rfl rfl (by omega) (by omega) (fun hn => absurd hn (by decide)) (fun _ => ?_)
            refine run_ok 3 (c' := (98, [(0, .ref 48), (1, .int (nI 1)), (2, .int (nI 4)), (3, .int (nI m)), (4, .int (nI (5 * m))), (5, .int (nI 3))], [.int ((nI (5 * m)) + (nI 3))], u)) rfl ?_
            refine x_top (v' := nI ((5 * m) + 3)) (nI_add _ _) ?_
            exact x_ret (r := some (.int (nI ((5 * m) + 3)))) rfl rfl trivial (QP1.bad (flt_at (x := 5 * m + 3) (by have := o2.1; omega) s3 (fun hx => bf (fun z => g3 ⟨hx, okb3.mp z⟩)) (fun hx z => by omega)) hh hf h8 h2) rfl
          · rw [hr]
            clear hr r
            have s0 : ∀ i, i < 5 * m → okb b i = true := hall
            have s1 : ∀ i, i < 5 * m + 1 → okb b i = true := ok_s s0 (okb0.mpr o0.2)
            have s2 : ∀ i, i < 5 * m + 2 → okb b i = true := ok_s s1 (okb1.mpr o1.2)
            have s3 : ∀ i, i < 5 * m + 3 → okb b i = true := ok_s s2 (okb2.mpr o2.2)
            have s4 : ∀ i, i < 5 * m + 4 → okb b i = true := ok_s s3 (okb3.mpr o3.2)
            have hlt := o3.1
            have hfv : fr [48, 53, 54, 55, 56] S v := by rw [hu]; exact ((((hf.pt (by decide)).pt (by decide)).pt (by decide)).pt (by decide))
            have h8v : f48 [5] S v := by rw [hu]; exact h8
            have h2v : v.2 = S.2 := by rw [hu]; exact h2
            have hhv : v.1 48 5 = nI 0 := by rw [hu]; exact hh
            have hWv : BW b (m + 1) v := by rw [hu]; exact hW.next o0.2
            have hXv : XM 1 n b v := hX.keep hfv (by decide)
            obtain ⟨x1, x2, x3⟩ := id hXv
            refine run_ok 3 (c' := (90, [(0, .ref 48), (1, .int (nI 1)), (2, .int (nI 4)), (3, .int (nI m)), (4, .int (nI (5 * m))), (5, .int (nI 4))], [.int (nI 4), .int (nI 4)], v)) rfl ?_
            refine x_icmpN_ge 99 rfl rfl (by omega) (by omega) (fun _ => ?_) (fun hn => absurd hn (by decide))
            refine run_ok 1 (c' := (102, [(0, .ref 48), (1, .int (nI 1)), (2, .int (nI 4)), (3, .int (nI m + nI 1)), (4, .int (nI (5 * m))), (5, .int (nI 4))], [], v)) rfl ?_
            rw [nI_add m 1]
            refine run_ok 3 (c' := (106, [(0, .ref 48), (1, .int (nI 1)), (2, .int (nI 4)), (3, .int (nI (m + 1))), (4, .int (nI (5 * m))), (5, .int (nI 4))], [.int ((nI (5 * m)) + (nI 4))], v)) rfl ?_
            refine x_top (v' := nI ((5 * m) + 4)) (nI_add _ _) ?_
            refine run_ok 5 (c' := (115, [(0, .ref 48), (1, .int (nI 1)), (2, .int (nI 4)), (3, .int (nI (m + 1))), (4, .int (nI ((5 * m) + 4))), (5, .int (nI 4))], [.int (nI 1), .ref 49, .int (nI ((5 * m) + 4))], v)) rfl ?_
            refine x_iaN (nI n) rfl rfl (by decide) (by omega) x1 ?_
            refine x_icmpN_ne 154 rfl rfl (by omega) (by omega) (fun h116 => ?_) (fun h116 => ?_)
            · refine run_ok 3 (c' := (158, [(0, .ref 48), (1, .int (nI 1)), (2, .int (nI 4)), (3, .int (nI (m + 1))), (4, .int (nI ((5 * m) + 4))), (5, .int (nI 4))], [.int (nI ((5 * m) + 4)), .int (nI 1), .ref 48], v)) rfl ?_
              refine x_callV [.int (nI 1), .int (nI ((5 * m) + 4))] rfl cv_R_byteAt.1 lk_7_126 cv_R_byteAt.2.1 cv_R_byteAt.2.2.1 rfl cv_R_byteAt.2.2.2.1 rfl rfl (Nat.le_of_ble_eq_true rfl) (by decide) cv_R_byteAt.2.2.2.2 (m_byteAt1 v n b hXv hn (5 * m + 4) (by omega)) ?_
              rintro r z ⟨hr, hu⟩
              rw [hr, hu]
              clear hr r
              refine run_ok 1 (c' := (163, [(0, .ref 48), (1, .int (nI 1)), (2, .int (nI 4)), (3, .int (nI (m + 1))), (4, .int (nI ((5 * m) + 4))), (5, .int (nI 4))], [.int (nI 59), .int (ba n b (5 * m + 4))], v)) rfl ?_
              refine x_icmp_eq 169 rfl rfl (fun h163 => ?_) (fun h163 => ?_)
              · refine run_ok 1 (c' := (172, [(0, .ref 48), (1, .int (nI 1)), (2, .int (nI 4)), (3, .int (nI (m + 1))), (4, .int (nI ((5 * m) + 4) + nI 1)), (5, .int (nI 4))], [], v)) rfl ?_
                rw [nI_add ((5 * m) + 4) 1]
                refine run_ok 1 (c' := (48, [(0, .ref 48), (1, .int (nI 1)), (2, .int (nI 4)), (3, .int (nI (m + 1))), (4, .int (nI ((5 * m) + 4 + 1))), (5, .int (nI 4))], [], v)) rfl ?_
                refine x_less [0, 1, 2, 3, 4] rfl ?_
                have hn3 : 5 * m + 4 < n := by
                  rcases Nat.lt_or_ge (5 * m + 4) n with h | h
                  · exact h
                  · omega
                have e59 : okb b (5 * m + 4) = true := okb4.mpr ((nI_eqI (by have := x3 _ hn3; omega) (by decide)).mp ((show ba n b (5 * m + 4) = nI (b (5 * m + 4)) from if_pos hn3).symm.trans h163))
                rw [show 5 * m + 4 + 1 = 5 * (m + 1) by omega]
                exact ih v (by omega) (fun i hi => ok_s s4 e59 i (by omega)) hWv hhv hfv h8v h2v
              · refine run_ok 1 (c' := (168, [(0, .ref 48), (1, .int (nI 1)), (2, .int (nI 4)), (3, .int (nI (m + 1))), (4, .int (nI ((5 * m) + 4))), (5, .int (nI 4))], [.int (nI ((5 * m) + 4))], v)) rfl ?_
                exact x_ret (r := some (.int (nI ((5 * m) + 4)))) rfl rfl trivial (QP1.bad (flt_at (by omega) s4 (fun hx => bf (fun z => h163 (show ba n b (5 * m + 4) = nI 59 by rw [show ba n b (5 * m + 4) = nI (b (5 * m + 4)) from if_pos hx, okb4.mp z]))) (fun hx z => by omega)) hhv hfv h8v h2v) rfl
            · refine run_ok 2 (c' := (121, [(0, .ref 48), (1, .int (nI 1)), (2, .int (nI 4)), (3, .int (nI (m + 1))), (4, .int (nI ((5 * m) + 4))), (5, .int (nI 4))], [.int (nI 1), .ref 48], v)) rfl ?_
              refine x_ifN_ne 128 rfl rfl (by omega) (fun _ => ?_) (fun hn => absurd hn (by decide))
              refine run_ok 6 (c' := (138, [(0, .ref 48), (1, .int (nI 1)), (2, .int (nI 4)), (3, .int (nI (m + 1))), (4, .int (nI ((5 * m) + 4))), (5, .int (nI 4))], [.int (nI 1), .int (nI 1), .ref 48], (pt v 48 2 (v.1 48 2)))) rfl ?_
              refine x_icmpN_ne 145 rfl rfl (by omega) (by omega) (fun hn => absurd hn (by decide)) (fun _ => ?_)
              refine run_ok 4 (c' := (153, [(0, .ref 48), (1, .int (nI 1)), (2, .int (nI 4)), (3, .int (nI (m + 1))), (4, .int (nI ((5 * m) + 4))), (5, .int (nI 4))], [.int (-1)], (pt (pt v 48 2 (v.1 48 2)) 48 5 (nI (m + 1))))) rfl ?_
              exact x_ret (r := some (.int (-1))) rfl rfl trivial (QP1.good (m := m + 1) (flt_all (fun i hi => s4 i (by omega)) (Or.inr (by omega))) (by omega) rfl hWv ((hfv.pt (by decide)).pt (by decide)) ((h8v.same rfl).put (by decide)) h2v) rfl
  refine run_ok 1 (c' := (1, [(0, .ref 48), (1, .int (nI 1))], [.int (nI 1)], S)) rfl ?_
  refine x_ifN_ne 8 rfl rfl (by omega) (fun _ => ?_) (fun hn => absurd hn (by decide))
  refine run_ok 8 (c' := (17, [(0, .ref 48), (1, .int (nI 1)), (2, .int (nI 4)), (3, .int (nI 0)), (4, .int (nI 0))], [.int (nI 1), .ref 48], S)) rfl ?_
  refine x_ifN_ne 24 rfl rfl (by omega) (fun _ => ?_) (fun hn => absurd hn (by decide))
  refine run_ok 6 (c' := (34, [(0, .ref 48), (1, .int (nI 1)), (2, .int (nI 4)), (3, .int (nI 0)), (4, .int (nI 0))], [.int (nI 1), .int (nI 1), .ref 48], (pt S 48 2 (S.1 48 2)))) rfl ?_
  refine x_icmpN_ne 41 rfl rfl (by omega) (by omega) (fun hn => absurd hn (by decide)) (fun _ => ?_)
  refine run_ok 3 (c' := (48, [(0, .ref 48), (1, .int (nI 1)), (2, .int (nI 4)), (3, .int (nI 0)), (4, .int (nI 0))], [], (pt (pt S 48 2 (S.1 48 2)) 48 5 (nI 0)))) rfl ?_
  exact H 0 (by omega) _ (by omega) (fun i hi => absurd hi (Nat.not_lt_zero _)) ⟨fun i hi => absurd hi (Nat.not_lt_zero _), fun i hi => absurd hi (Nat.not_lt_zero _), fun i hi => absurd hi (Nat.not_lt_zero _), fun i hi => absurd hi (Nat.not_lt_zero _)⟩ rfl ((fr.rf.pt (by decide)).pt (by decide)) ((f48.rf.same rfl).put (by decide)) rfl


/-! what is heard of a text -/
theorem fl_none {ok : Nat → Bool} : ∀ m j, fl ok m j = none → ∀ i, j ≤ i → i < j + m → ok i = true := by
  intro m
  induction m with
  | zero => intro j _ i h1 h2; omega
  | succ m ih =>
    intro j h i h1 h2
    unfold fl at h
    split at h
    · rename_i h0
      by_cases e : i = j
      · rw [e]; exact h0
      · exact ih (j + 1) h i (by omega) (by omega)
    · cases h
theorem fl_lt {ok : Nat → Bool} : ∀ m j x, fl ok m j = some x → x < j + m := by
  intro m
  induction m with
  | zero => intro j x h; cases h
  | succ m ih =>
    intro j x h
    unfold fl at h
    split at h
    · have := ih _ _ h; omega
    · cases h; omega
theorem flt_none {ok : Nat → Bool} {st n : Nat} (h : flt ok st n = none) : (∀ i, i < n → ok i = true) ∧ (n = 0 ∨ n % st = st - 1) := by
  unfold flt at h
  cases hf : fl ok n 0 with
  | some j => rw [hf] at h; cases h
  | none =>
    rw [hf] at h
    dsimp only at h
    split at h
    · rename_i h2
      exact ⟨fun i hi => fl_none n 0 hf i (Nat.zero_le _) (by omega), h2⟩
    · cases h
theorem flt_le {ok : Nat → Bool} {st n m : Nat} (h : flt ok st n = some m) : m ≤ n := by
  unfold flt at h
  cases hf : fl ok n 0 with
  | some j => rw [hf] at h; cases h; have := fl_lt _ _ _ hf; omega
  | none =>
    rw [hf] at h
    dsimp only at h
    split at h
    · cases h
    · cases h; omega
def hcn (n : Nat) (b : Nat → Nat) : Nat := if flt (okh b) 4 n = none then (n + 1) / 4 else 0
def bcn (n : Nat) (b : Nat → Nat) : Nat := if flt (okb b) 5 n = none then (n + 1) / 5 else 0
def hzf (b : Nat → Nat) : Nat → Nat → Nat
  | 0 => fun _ => 0
  | i + 1 => upn (hzf b i) (8 * (b (4 * i) - 48) + (b (4 * i + 1) - 48)) (b (4 * i + 2) - 48)
theorem hate_ok {n i : Nat} {b : Nat → Nat} (h : flt (okh b) 4 n = none) (hi : i < (n + 1) / 4) : 4 * i + 2 < n ∧ (48 ≤ b (4 * i) ∧ b (4 * i) ≤ 55) ∧ (48 ≤ b (4 * i + 1) ∧ b (4 * i + 1) ≤ 55) ∧ (49 ≤ b (4 * i + 2) ∧ b (4 * i + 2) ≤ 57) := by
  obtain ⟨h1, h2⟩ := flt_none h
  have hl : 4 * i + 2 < n := by omega
  refine ⟨hl, ?_, ?_, ?_⟩
  · have := h1 (4 * i) (by omega)
    unfold okh at this
    rw [if_pos (by omega)] at this
    exact of_decide_eq_true this
  · have := h1 (4 * i + 1) (by omega)
    unfold okh at this
    rw [if_neg (by omega), if_pos (by omega)] at this
    exact (of_decide_eq_true this).1
  · have := h1 (4 * i + 2) (by omega)
    unfold okh at this
    rw [if_neg (by omega), if_neg (by omega), if_pos (by omega)] at this
    exact of_decide_eq_true this
theorem boat_ok {n i : Nat} {b : Nat → Nat} (h : flt (okb b) 5 n = none) (hi : i < (n + 1) / 5) : 5 * i + 3 < n ∧ (∃ m, sof (b (5 * i)) = some m ∧ m ≤ 2) ∧ (48 ≤ b (5 * i + 1) ∧ b (5 * i + 1) ≤ 55) ∧ (97 ≤ b (5 * i + 2) ∧ b (5 * i + 2) ≤ 120) ∧ (49 ≤ b (5 * i + 3) ∧ b (5 * i + 3) ≤ 57) := by
  obtain ⟨h1, h2⟩ := flt_none h
  have hl : 5 * i + 3 < n := by omega
  refine ⟨hl, ?_, ?_, ?_, ?_⟩
  · have := h1 (5 * i) (by omega)
    unfold okb at this
    rw [if_pos (by omega)] at this
    obtain ⟨m, hm⟩ := Option.isSome_iff_exists.mp this
    exact ⟨m, hm, sof_lt hm⟩
  · have := h1 (5 * i + 1) (by omega)
    unfold okb at this
    rw [if_neg (by omega), if_pos (by omega)] at this
    exact of_decide_eq_true this
  · have := h1 (5 * i + 2) (by omega)
    unfold okb at this
    rw [if_neg (by omega), if_neg (by omega), if_pos (by omega)] at this
    exact of_decide_eq_true this
  · have := h1 (5 * i + 3) (by omega)
    unfold okb at this
    rw [if_neg (by omega), if_neg (by omega), if_neg (by omega), if_pos (by omega)] at this
    exact of_decide_eq_true this
set_option maxHeartbeats 2000000 in
theorem c_hearHates (S : ST) (n : Nat) (b : Nat → Nat) (hX : XR 1 n b S) (hn : n ≤ 47) : EX me_T_hearHates 3 [.ref 5, .ref 1] S (fun r u => r = none ∧ rh u 6 64 (hzf b (hcn n b)) ∧ u.1 5 = upd (S.1 5) 1 (nI (hcn n b)) ∧ u.1 1 = upd (S.1 1) 2 (spv (flt (okh b) 4 n)) ∧ fr [1, 5, 6] S u ∧ u.2 = S.2) := by
  refine EX.of mok_T_hearHates (Nat.le_of_ble_eq_true rfl) ?_
  obtain ⟨x1, x2, x3⟩ := id hX
  have hm : hcn n b ≤ 12 := by
    unfold hcn; split <;> omega
  have H : ∀ i, i ≤ hcn n b → ∀ v : ST, rh v 6 64 (hzf b i) → v.1 5 = upd (S.1 5) 1 (nI (hcn n b)) → v.1 1 = upd (S.1 1) 2 (spv (flt (okh b) 4 n)) → fr [1, 5, 6] S v → v.2 = S.2 → BX me_T_hearHates 3 none (fun r u => r = none ∧ rh u 6 64 (hzf b (hcn n b)) ∧ u.1 5 = upd (S.1 5) 1 (nI (hcn n b)) ∧ u.1 1 = upd (S.1 1) 2 (spv (flt (okh b) 4 n)) ∧ fr [1, 5, 6] S u ∧ u.2 = S.2) (38, [(0, .ref 5), (1, .ref 1), (2, .int (nI i))], [], v) := by
    refine loop_up (P := fun i => ∀ v : ST, rh v 6 64 (hzf b i) → v.1 5 = upd (S.1 5) 1 (nI (hcn n b)) → v.1 1 = upd (S.1 1) 2 (spv (flt (okh b) 4 n)) → fr [1, 5, 6] S v → v.2 = S.2 → BX me_T_hearHates 3 none (fun r u => r = none ∧ rh u 6 64 (hzf b (hcn n b)) ∧ u.1 5 = upd (S.1 5) 1 (nI (hcn n b)) ∧ u.1 1 = upd (S.1 1) 2 (spv (flt (okh b) 4 n)) ∧ fr [1, 5, 6] S u ∧ u.2 = S.2) (38, [(0, .ref 5), (1, .ref 1), (2, .int (nI i))], [], v)) (hcn n b) ?_ ?_
    · intro v h6 h5 h1 hf h2
      have m1 : v.1 5 1 = nI (hcn n b) := by rw [h5]; rfl
      have hXv : XR 1 n b v := ⟨by rw [h1]; exact x1, fun j hj => by rw [hf 2 (by decide)]; exact x2 j hj, x3⟩
      refine run_ok 3 (c' := (43, [(0, .ref 5), (1, .ref 1), (2, .int (nI (hcn n b)))], [.int (v.1 5 1), .int (nI (hcn n b))], v)) rfl ?_
      refine x_top (v' := nI (hcn n b)) m1 ?_
      refine x_icmpN_ge 83 rfl rfl (by omega) (by omega) (fun h43 => ?_) (fun hn => absurd (Nat.le_refl _) hn)
      exact x_ret (r := none) rfl rfl trivial ⟨rfl, h6, h5, h1, hf, h2⟩ rfl
    · intro i hi ih v h6 h5 h1 hf h2
      have m1 : v.1 5 1 = nI (hcn n b) := by rw [h5]; rfl
      have hXv : XR 1 n b v := ⟨by rw [h1]; exact x1, fun j hj => by rw [hf 2 (by decide)]; exact x2 j hj, x3⟩
      have hno : flt (okh b) 4 n = none := by
        by_cases e : flt (okh b) 4 n = none
        · exact e
        · exact absurd hi (by unfold hcn; rw [if_neg e]; omega)
      have q := hate_ok hno (show i < (n + 1) / 4 by unfold hcn at hi; rw [if_pos hno] at hi; exact hi)
      refine run_ok 3 (c' := (43, [(0, .ref 5), (1, .ref 1), (2, .int (nI i))], [.int (v.1 5 1), .int (nI i)], v)) rfl ?_
      refine x_top (v' := nI (hcn n b)) m1 ?_
      refine x_icmpN_ge 83 rfl rfl (by omega) (by omega) (fun hn => absurd hn (show ¬ hcn n b ≤ i by omega)) (fun h43 => ?_)
      refine run_ok 3 (c' := (49, [(0, .ref 5), (1, .ref 1), (2, .int (nI i))], [.int ((nI 4) * (nI i))], v)) rfl ?_
      refine x_top (v' := nI (4 * i)) (pk_mul _ _) ?_
      refine run_ok 5 (c' := (56, [(0, .ref 5), (1, .ref 1), (2, .int (nI i)), (3, .int (nI (4 * i)))], [.int (nI (4 * i)), .ref 1, .ref 6], v)) rfl ?_
      refine x_callV [.int (nI (4 * i))] rfl cv_X_figure.1 lk_3_72 cv_X_figure.2.1 cv_X_figure.2.2.1 rfl cv_X_figure.2.2.2.1 rfl rfl (Nat.le_of_ble_eq_true rfl) (by decide) cv_X_figure.2.2.2.2 (c_figure0 v n b hXv hn (4 * i) (by omega) (by omega)) ?_
      rintro r x ⟨hr, hu⟩
      rw [hr, hu]
      clear hr hu r x
      refine run_ok 4 (c' := (63, [(0, .ref 5), (1, .ref 1), (2, .int (nI i)), (3, .int (nI (4 * i)))], [.int ((nI (4 * i)) + (nI 1)), .ref 1, .int (nI (b (4 * i) - 48)), .ref 6], v)) rfl ?_
      refine x_top (v' := nI ((4 * i) + 1)) (nI_add _ _) ?_
      refine x_callV [.int (nI ((4 * i) + 1))] rfl cv_X_figure.1 lk_3_72 cv_X_figure.2.1 cv_X_figure.2.2.1 rfl cv_X_figure.2.2.2.1 rfl rfl (Nat.le_of_ble_eq_true rfl) (by decide) cv_X_figure.2.2.2.2 (c_figure0 v n b hXv hn ((4 * i) + 1) (by omega) (by omega)) ?_
      rintro r x ⟨hr, hu⟩
      rw [hr, hu]
      clear hr hu r x
      refine x_callN [.int (nI (b (4 * i) - 48)), .int (nI (b ((4 * i) + 1) - 48))] rfl cs_N_pair.1 (fun U hU => hU.1) cs_N_pair.2.1 rfl rfl (Nat.le_of_ble_eq_true rfl) (by decide) cs_N_pair.2.2 (c_pair v (nI (b (4 * i) - 48)) (nI (b ((4 * i) + 1) - 48))) ?_
      rintro r x ⟨hr, hu⟩
      rw [hr, hu]
      clear hr hu r x
      refine x_top (v' := nI (8 * (b (4 * i) - 48) + (b ((4 * i) + 1) - 48))) (by rw [pk_mul, nI_add, Nat.mul_comm]) ?_
      refine run_ok 4 (c' := (73, [(0, .ref 5), (1, .ref 1), (2, .int (nI i)), (3, .int (nI (4 * i)))], [.int ((nI (4 * i)) + (nI 2)), .ref 1, .int (nI (8 * (b (4 * i) - 48) + (b ((4 * i) + 1) - 48))), .ref 6], v)) rfl ?_
      refine x_top (v' := nI ((4 * i) + 2)) (nI_add _ _) ?_
      refine x_callV [.int (nI ((4 * i) + 2))] rfl cv_X_figure.1 lk_3_72 cv_X_figure.2.1 cv_X_figure.2.2.1 rfl cv_X_figure.2.2.2.1 rfl rfl (Nat.le_of_ble_eq_true rfl) (by decide) cv_X_figure.2.2.2.2 (c_figure0 v n b hXv hn ((4 * i) + 2) (by omega) (by omega)) ?_
      rintro r x ⟨hr, hu⟩
      rw [hr, hu]
      clear hr hu r x
      refine x_isN rfl rfl (by decide) (by omega) ?_
      refine run_ok 1 (c' := (80, [(0, .ref 5), (1, .ref 1), (2, .int (nI i + nI 1)), (3, .int (nI (4 * i)))], [], (pt v 6 (8 * (b (4 * i) - 48) + (b ((4 * i) + 1) - 48)) (nI (b ((4 * i) + 2) - 48))))) rfl ?_
      rw [nI_add i 1]
      refine run_ok 1 (c' := (38, [(0, .ref 5), (1, .ref 1), (2, .int (nI (i + 1))), (3, .int (nI (4 * i)))], [], (pt v 6 (8 * (b (4 * i) - 48) + (b ((4 * i) + 1) - 48)) (nI (b ((4 * i) + 2) - 48))))) rfl ?_
      refine x_less [0, 1, 2] rfl ?_
      exact ih _ h6.put h5 h1 (hf.pt (by decide)) h2
  refine run_ok 1 (c' := (1, [(0, .ref 5), (1, .ref 1)], [.ref 1], S)) rfl ?_
  refine x_callV [] rfl cv_X_findHatesFault.1 lk_3_55 cv_X_findHatesFault.2.1 cv_X_findHatesFault.2.2.1 rfl cv_X_findHatesFault.2.2.2.1 rfl rfl (Nat.le_of_ble_eq_true rfl) (by decide) cv_X_findHatesFault.2.2.2.2 (c_findFault0 S n b hX hn) ?_
  rintro r x ⟨hr, hu⟩
  rw [hr, hu]
  clear hr hu r x
  refine run_ok 3 (c' := (9, [(0, .ref 5), (1, .ref 1)], [.int (nI 0), .ref 6], (pt S 1 2 (spv (flt (okh b) 4 n))))) rfl ?_
  refine x_callS [.ref 6, .int (nI 0)] rfl cs_J_filli.1 lk_3_60 cs_J_filli.2.1 rfl rfl (Nat.le_of_ble_eq_true rfl) (by decide) cs_J_filli.2.2 (c_filli (pt S 1 2 (spv (flt (okh b) 4 n))) 6 64 [] (nI 0) rfl (by decide)) ?_
  rintro r u ⟨hr, ha, hfu, h2u⟩
  rw [hr]
  clear hr r
  have k1 : u.1 1 = upd (S.1 1) 2 (spv (flt (okh b) 4 n)) := by rw [hfu 1 (by decide)]; rfl
  have k5 : u.1 5 = S.1 5 := by rw [hfu 5 (by decide)]; rfl
  have e12 : u.1 1 2 = spv (flt (okh b) 4 n) := by rw [k1]; rfl
  have e11 : u.1 1 1 = nI n := by rw [k1]; exact x1
  have hfS : fr [1, 5, 6] S u := (fr.rf.pt (by decide)).tr (hfu.sub (by decide))
  refine run_ok 3 (c' := (17, [(0, .ref 5), (1, .ref 1)], [.int (u.1 1 2), .ref 5], u)) rfl ?_
  refine x_top (v' := spv (flt (okh b) 4 n)) e12 ?_
  refine run_ok 1 (c' := (18, [(0, .ref 5), (1, .ref 1)], [.int (-1), .int (spv (flt (okh b) 4 n)), .ref 5], u)) rfl ?_
  refine x_icmp_ne 32 rfl rfl (fun h18 => ?_) (fun h18 => ?_)
  · refine run_ok 4 (c' := (38, [(0, .ref 5), (1, .ref 1), (2, .int (nI 0))], [], (pt u 5 1 (nI 0)))) rfl ?_
    have ec : hcn n b = 0 := if_neg (fun z => h18 ((spv_n1 (fun m hm => by have := flt_le hm; omega)).mpr z))
    exact H 0 (Nat.zero_le _) _ (fun j hj => ha j hj) (by rw [ec, ← k5]; rfl) k1 (hfS.pt (by decide)) h2u
  · refine run_ok 2 (c' := (25, [(0, .ref 5), (1, .ref 1)], [.int (u.1 1 1), .ref 5], u)) rfl ?_
    refine x_top (v' := nI n) e11 ?_
    refine run_ok 2 (c' := (27, [(0, .ref 5), (1, .ref 1)], [.int ((nI n) + (nI 1)), .ref 5], u)) rfl ?_
    refine x_top (v' := nI (n + 1)) (nI_add _ _) ?_
    refine run_ok 1 (c' := (28, [(0, .ref 5), (1, .ref 1)], [.int (nI 4), .int (nI (n + 1)), .ref 5], u)) rfl ?_
    refine x_idiv rfl (by decide) ?_
    refine x_top (v' := nI ((n + 1) / 4)) (pk_div (by omega) (by omega) (by omega)) ?_
    refine run_ok 4 (c' := (38, [(0, .ref 5), (1, .ref 1), (2, .int (nI 0))], [], (pt u 5 1 (nI ((n + 1) / 4))))) rfl ?_
    have ec : hcn n b = (n + 1) / 4 := if_pos ((spv_n1 (fun m hm => by have := flt_le hm; omega)).mp h18)
    exact H 0 (Nat.zero_le _) _ (fun j hj => ha j hj) (by rw [ec, ← k5]; rfl) k1 (hfS.pt (by decide)) h2u

set_option maxHeartbeats 2000000 in
theorem c_hearBoats (S : ST) (n : Nat) (b : Nat → Nat) (hX : XR 3 n b S) (hn : n ≤ 39) : EX me_T_hearBoats 3 [.ref 5, .ref 3] S (fun r u => r = none ∧ (rh u 7 (bcn n b) (fun i => (sof (b (5 * i))).getD 0) ∧ rh u 8 (bcn n b) (fun i => b (5 * i + 1) - 48) ∧ rh u 9 (bcn n b) (fun i => b (5 * i + 2) - 97) ∧ rh u 10 (bcn n b) (fun i => b (5 * i + 3) - 48)) ∧ u.1 5 = upd (S.1 5) 6 (nI (bcn n b)) ∧ u.1 3 = upd (S.1 3) 2 (spv (flt (okb b) 5 n)) ∧ fr [3, 5, 7, 8, 9, 10] S u ∧ u.2 = S.2) := by
  refine EX.of mok_T_hearBoats (Nat.le_of_ble_eq_true rfl) ?_
  obtain ⟨x1, x2, x3⟩ := id hX
  have hm : bcn n b ≤ 8 := by
    unfold bcn; split <;> omega
  have H : ∀ i, i ≤ bcn n b → ∀ v : ST, (rh v 7 i (fun i => (sof (b (5 * i))).getD 0) ∧ rh v 8 i (fun i => b (5 * i + 1) - 48) ∧ rh v 9 i (fun i => b (5 * i + 2) - 97) ∧ rh v 10 i (fun i => b (5 * i + 3) - 48)) → v.1 5 = upd (S.1 5) 6 (nI (bcn n b)) → v.1 3 = upd (S.1 3) 2 (spv (flt (okb b) 5 n)) → fr [3, 5, 7, 8, 9, 10] S v → v.2 = S.2 → BX me_T_hearBoats 3 none (fun r u => r = none ∧ (rh u 7 (bcn n b) (fun i => (sof (b (5 * i))).getD 0) ∧ rh u 8 (bcn n b) (fun i => b (5 * i + 1) - 48) ∧ rh u 9 (bcn n b) (fun i => b (5 * i + 2) - 97) ∧ rh u 10 (bcn n b) (fun i => b (5 * i + 3) - 48)) ∧ u.1 5 = upd (S.1 5) 6 (nI (bcn n b)) ∧ u.1 3 = upd (S.1 3) 2 (spv (flt (okb b) 5 n)) ∧ fr [3, 5, 7, 8, 9, 10] S u ∧ u.2 = S.2) (30, [(0, .ref 5), (1, .ref 3), (2, .int (nI i))], [], v) := by
    refine loop_up (P := fun i => ∀ v : ST, (rh v 7 i (fun i => (sof (b (5 * i))).getD 0) ∧ rh v 8 i (fun i => b (5 * i + 1) - 48) ∧ rh v 9 i (fun i => b (5 * i + 2) - 97) ∧ rh v 10 i (fun i => b (5 * i + 3) - 48)) → v.1 5 = upd (S.1 5) 6 (nI (bcn n b)) → v.1 3 = upd (S.1 3) 2 (spv (flt (okb b) 5 n)) → fr [3, 5, 7, 8, 9, 10] S v → v.2 = S.2 → BX me_T_hearBoats 3 none (fun r u => r = none ∧ (rh u 7 (bcn n b) (fun i => (sof (b (5 * i))).getD 0) ∧ rh u 8 (bcn n b) (fun i => b (5 * i + 1) - 48) ∧ rh u 9 (bcn n b) (fun i => b (5 * i + 2) - 97) ∧ rh u 10 (bcn n b) (fun i => b (5 * i + 3) - 48)) ∧ u.1 5 = upd (S.1 5) 6 (nI (bcn n b)) ∧ u.1 3 = upd (S.1 3) 2 (spv (flt (okb b) 5 n)) ∧ fr [3, 5, 7, 8, 9, 10] S u ∧ u.2 = S.2) (30, [(0, .ref 5), (1, .ref 3), (2, .int (nI i))], [], v)) (bcn n b) ?_ ?_
    · intro v h6 h5 h1 hf h2
      have m1 : v.1 5 6 = nI (bcn n b) := by rw [h5]; rfl
      have hXv : XR 3 n b v := ⟨by rw [h1]; exact x1, fun j hj => by rw [hf 4 (by decide)]; exact x2 j hj, x3⟩
      have xv2 := hXv.2.1
      refine run_ok 3 (c' := (35, [(0, .ref 5), (1, .ref 3), (2, .int (nI (bcn n b)))], [.int (v.1 5 6), .int (nI (bcn n b))], v)) rfl ?_
      refine x_top (v' := nI (bcn n b)) m1 ?_
      refine x_icmpN_ge 106 rfl rfl (by omega) (by omega) (fun h35 => ?_) (fun hn => absurd (Nat.le_refl _) hn)
      exact x_ret (r := none) rfl rfl trivial ⟨rfl, h6, h5, h1, hf, h2⟩ rfl
    · intro i hi ih v h6 h5 h1 hf h2
      have m1 : v.1 5 6 = nI (bcn n b) := by rw [h5]; rfl
      have hXv : XR 3 n b v := ⟨by rw [h1]; exact x1, fun j hj => by rw [hf 4 (by decide)]; exact x2 j hj, x3⟩
      have xv2 := hXv.2.1
      have hno : flt (okb b) 5 n = none := by
        by_cases e : flt (okb b) 5 n = none
        · exact e
        · exact absurd hi (by unfold bcn; rw [if_neg e]; omega)
      have q := boat_ok hno (show i < (n + 1) / 5 by unfold bcn at hi; rw [if_pos hno] at hi; exact hi)
      refine run_ok 3 (c' := (35, [(0, .ref 5), (1, .ref 3), (2, .int (nI i))], [.int (v.1 5 6), .int (nI i)], v)) rfl ?_
      refine x_top (v' := nI (bcn n b)) m1 ?_
      refine x_icmpN_ge 106 rfl rfl (by omega) (by omega) (fun hn => absurd hn (show ¬ bcn n b ≤ i by omega)) (fun h35 => ?_)
      refine run_ok 3 (c' := (41, [(0, .ref 5), (1, .ref 3), (2, .int (nI i))], [.int ((nI 5) * (nI i))], v)) rfl ?_
      refine x_top (v' := nI (5 * i)) (pk_mul _ _) ?_
      refine run_ok 7 (c' := (52, [(0, .ref 5), (1, .ref 3), (2, .int (nI i)), (3, .int (nI (5 * i)))], [.int (nI (5 * i)), .ref 4, .int (nI i), .ref 7], v)) rfl ?_
      refine x_iaN (nI (b (5 * i))) rfl rfl (by decide) (by omega) (xv2 (5 * i) (by omega)) ?_
      refine x_callS [.int (nI (b (5 * i)))] rfl cs_X_sortOf.1 lk_3_86 cs_X_sortOf.2.1 rfl rfl (Nat.le_of_ble_eq_true rfl) (by decide) cs_X_sortOf.2.2 (c_sortOf v (b (5 * i)) (x3 _ (by omega))) ?_
      rintro r x ⟨hr, hu⟩
      rw [hr, hu]
      clear hr hu r x
      obtain ⟨m, hm1, hm2⟩ := q.2.1
      rw [show spv (sof (b (5 * i))) = nI ((sof (b (5 * i))).getD 0) by rw [hm1]; rfl]
      refine x_isN rfl rfl (by decide) (by omega) ?_
      refine run_ok 7 (c' := (66, [(0, .ref 5), (1, .ref 3), (2, .int (nI i)), (3, .int (nI (5 * i)))], [.int ((nI (5 * i)) + (nI 1)), .ref 3, .int (nI i), .ref 8], (pt v 7 i (nI ((sof (b (5 * i))).getD 0))))) rfl ?_
      refine x_top (v' := nI ((5 * i) + 1)) (nI_add _ _) ?_
      refine x_callV [.int (nI ((5 * i) + 1))] rfl cv_X_figure.1 lk_3_72 cv_X_figure.2.1 cv_X_figure.2.2.1 rfl cv_X_figure.2.2.2.1 rfl rfl (Nat.le_of_ble_eq_true rfl) (by decide) cv_X_figure.2.2.2.2 (c_figure1 (pt v 7 i (nI ((sof (b (5 * i))).getD 0))) n b ⟨hXv.1, hXv.2.1, hXv.2.2⟩ hn ((5 * i) + 1) (by omega) (by omega)) ?_
      rintro r x ⟨hr, hu⟩
      rw [hr, hu]
      clear hr hu r x
      refine x_isN rfl rfl (by decide) (by omega) ?_
      refine run_ok 8 (c' := (82, [(0, .ref 5), (1, .ref 3), (2, .int (nI i)), (3, .int (nI (5 * i)))], [.int ((nI (5 * i)) + (nI 2)), .ref 4, .int (nI i), .ref 9], (pt (pt v 7 i (nI ((sof (b (5 * i))).getD 0))) 8 i (nI (b ((5 * i) + 1) - 48))))) rfl ?_
      refine x_top (v' := nI ((5 * i) + 2)) (nI_add _ _) ?_
      refine x_iaN (nI (b ((5 * i) + 2))) rfl rfl (by decide) (by omega) (xv2 ((5 * i) + 2) (by omega)) ?_
      refine run_ok 2 (c' := (86, [(0, .ref 5), (1, .ref 3), (2, .int (nI i)), (3, .int (nI (5 * i)))], [.int ((nI (b ((5 * i) + 2))) - (nI 97)), .int (nI i), .ref 9], (pt (pt v 7 i (nI ((sof (b (5 * i))).getD 0))) 8 i (nI (b ((5 * i) + 1) - 48))))) rfl ?_
      refine x_top (v' := nI (b (5 * i + 2) - 97)) (pk_sub (by omega)) ?_
      refine x_isN rfl rfl (by decide) (by omega) ?_
      refine run_ok 7 (c' := (96, [(0, .ref 5), (1, .ref 3), (2, .int (nI i)), (3, .int (nI (5 * i)))], [.int ((nI (5 * i)) + (nI 3)), .ref 3, .int (nI i), .ref 10], (pt (pt (pt v 7 i (nI ((sof (b (5 * i))).getD 0))) 8 i (nI (b ((5 * i) + 1) - 48))) 9 i (nI (b (5 * i + 2) - 97))))) rfl ?_
      refine x_top (v' := nI ((5 * i) + 3)) (nI_add _ _) ?_
      refine x_callV [.int (nI ((5 * i) + 3))] rfl cv_X_figure.1 lk_3_72 cv_X_figure.2.1 cv_X_figure.2.2.1 rfl cv_X_figure.2.2.2.1 rfl rfl (Nat.le_of_ble_eq_true rfl) (by decide) cv_X_figure.2.2.2.2 (c_figure1 (pt (pt (pt v 7 i (nI ((sof (b (5 * i))).getD 0))) 8 i (nI (b ((5 * i) + 1) - 48))) 9 i (nI (b (5 * i + 2) - 97))) n b ⟨hXv.1, hXv.2.1, hXv.2.2⟩ hn ((5 * i) + 3) (by omega) (by omega)) ?_
      rintro r x ⟨hr, hu⟩
      rw [hr, hu]
      clear hr hu r x
      refine x_isN rfl rfl (by decide) (by omega) ?_
      refine run_ok 1 (c' := (103, [(0, .ref 5), (1, .ref 3), (2, .int (nI i + nI 1)), (3, .int (nI (5 * i)))], [], (pt (pt (pt (pt v 7 i (nI ((sof (b (5 * i))).getD 0))) 8 i (nI (b ((5 * i) + 1) - 48))) 9 i (nI (b (5 * i + 2) - 97))) 10 i (nI (b ((5 * i) + 3) - 48))))) rfl ?_
      rw [nI_add i 1]
      refine run_ok 1 (c' := (30, [(0, .ref 5), (1, .ref 3), (2, .int (nI (i + 1))), (3, .int (nI (5 * i)))], [], (pt (pt (pt (pt v 7 i (nI ((sof (b (5 * i))).getD 0))) 8 i (nI (b ((5 * i) + 1) - 48))) 9 i (nI (b (5 * i + 2) - 97))) 10 i (nI (b ((5 * i) + 3) - 48))))) rfl ?_
      refine x_less [0, 1, 2] rfl ?_
      have ex : ∀ (f : Nat → Nat) (k : Nat), rh v k i f → ∀ j, j < i + 1 → upd (v.1 k) i (nI (f i)) j = nI (f j) := by
        intro f k h j hj
        unfold upd
        split
        · rename_i e; rw [e]
        · exact h j (by omega)
      exact ih _ ⟨ex (fun i => (sof (b (5 * i))).getD 0) 7 h6.1, ex (fun i => b (5 * i + 1) - 48) 8 h6.2.1, ex (fun i => b (5 * i + 2) - 97) 9 h6.2.2.1, ex (fun i => b (5 * i + 3) - 48) 10 h6.2.2.2⟩ h5 h1 ((((hf.pt (by decide)).pt (by decide)).pt (by decide)).pt (by decide)) h2
  refine run_ok 1 (c' := (1, [(0, .ref 5), (1, .ref 3)], [.ref 3], S)) rfl ?_
  refine x_callV [] rfl cv_X_findBoatsFault.1 lk_3_80 cv_X_findBoatsFault.2.1 cv_X_findBoatsFault.2.2.1 rfl cv_X_findBoatsFault.2.2.2.1 rfl rfl (Nat.le_of_ble_eq_true rfl) (by decide) cv_X_findBoatsFault.2.2.2.2 (c_findFault1 S n b hX hn) ?_
  rintro r x ⟨hr, hu⟩
  rw [hr, hu]
  clear hr hu r x
  refine run_ok 4 (c' := (10, [(0, .ref 5), (1, .ref 3)], [.int (-1), .int (spv (flt (okb b) 5 n)), .ref 5], (pt S 3 2 (spv (flt (okb b) 5 n))))) rfl ?_
  refine x_icmp_ne 24 rfl rfl (fun h10 => ?_) (fun h10 => ?_)
  · refine run_ok 4 (c' := (30, [(0, .ref 5), (1, .ref 3), (2, .int (nI 0))], [], (pt (pt S 3 2 (spv (flt (okb b) 5 n))) 5 6 (nI 0)))) rfl ?_
    have ec : bcn n b = 0 := if_neg (fun z => h10 ((spv_n1 (fun m hm => by have := flt_le hm; omega)).mpr z))
    exact H 0 (Nat.zero_le _) _ ⟨fun j hj => absurd hj (Nat.not_lt_zero _), fun j hj => absurd hj (Nat.not_lt_zero _), fun j hj => absurd hj (Nat.not_lt_zero _), fun j hj => absurd hj (Nat.not_lt_zero _)⟩ (by rw [ec]; rfl) rfl ((fr.rf.pt (by decide)).pt (by decide)) rfl
  · refine run_ok 2 (c' := (17, [(0, .ref 5), (1, .ref 3)], [.int (S.1 3 1), .ref 5], (pt S 3 2 (spv (flt (okb b) 5 n))))) rfl ?_
    refine x_top (v' := nI n) x1 ?_
    refine run_ok 2 (c' := (19, [(0, .ref 5), (1, .ref 3)], [.int ((nI n) + (nI 1)), .ref 5], (pt S 3 2 (spv (flt (okb b) 5 n))))) rfl ?_
    refine x_top (v' := nI (n + 1)) (nI_add _ _) ?_
    refine run_ok 1 (c' := (20, [(0, .ref 5), (1, .ref 3)], [.int (nI 5), .int (nI (n + 1)), .ref 5], (pt S 3 2 (spv (flt (okb b) 5 n))))) rfl ?_
    refine x_idiv rfl (by decide) ?_
    refine x_top (v' := nI ((n + 1) / 5)) (pk_div (by omega) (by omega) (by omega)) ?_
    refine run_ok 4 (c' := (30, [(0, .ref 5), (1, .ref 3), (2, .int (nI 0))], [], (pt (pt S 3 2 (spv (flt (okb b) 5 n))) 5 6 (nI ((n + 1) / 5))))) rfl ?_
    have ec : bcn n b = (n + 1) / 5 := if_pos ((spv_n1 (fun m hm => by have := flt_le hm; omega)).mp h10)
    exact H 0 (Nat.zero_le _) _ ⟨fun j hj => absurd hj (Nat.not_lt_zero _), fun j hj => absurd hj (Nat.not_lt_zero _), fun j hj => absurd hj (Nat.not_lt_zero _), fun j hj => absurd hj (Nat.not_lt_zero _)⟩ (by rw [ec]; rfl) rfl ((fr.rf.pt (by decide)).pt (by decide)) rfl


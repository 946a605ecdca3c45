/-! contracts: small static methods -/
theorem c_isBelow (S : ST) (x n : Int32) : EX me_N_isBelow 0 [.int x, .int n] S (fun r u => r = some (.int (b2 (0 ≤ x ∧ x < n))) ∧ u = S) := by
  refine EX.of mok_N_isBelow (Nat.le_of_ble_eq_true rfl) ?_
  refine run_ok 1 (c' := (1, [(0, .int x), (1, .int n)], [.int x], S)) rfl ?_
  refine x_if_lt 13 rfl rfl (fun h1 => ?_) (fun h1 => ?_)
  · refine run_ok 1 (c' := (14, [(0, .int x), (1, .int n)], [.int (nI 0)], S)) rfl ?_
    exact x_ret (r := some (.int (nI 0))) rfl rfl (Or.inl rfl) ⟨congrArg (fun z => some (Value.int z)) (b2_f (fun z => by first | exact absurd h6 (Int32.not_le.mpr z.2) | exact absurd h1 (Int32.not_lt.mpr z.1))).symm, rfl⟩ rfl
  · refine run_ok 2 (c' := (6, [(0, .int x), (1, .int n)], [.int n, .int x], S)) rfl ?_
    refine x_icmp_ge 13 rfl rfl (fun h6 => ?_) (fun h6 => ?_)
    · refine run_ok 1 (c' := (14, [(0, .int x), (1, .int n)], [.int (nI 0)], S)) rfl ?_
      exact x_ret (r := some (.int (nI 0))) rfl rfl (Or.inl rfl) ⟨congrArg (fun z => some (Value.int z)) (b2_f (fun z => by first | exact absurd h6 (Int32.not_le.mpr z.2) | exact absurd h1 (Int32.not_lt.mpr z.1))).symm, rfl⟩ rfl
    · refine run_ok 2 (c' := (14, [(0, .int x), (1, .int n)], [.int (nI 1)], S)) rfl ?_
      exact x_ret (r := some (.int (nI 1))) rfl rfl (Or.inr rfl) ⟨congrArg (fun z => some (Value.int z)) (b2_t ⟨Int32.not_lt.mp h1, Int32.not_le.mp h6⟩).symm, rfl⟩ rfl

theorem c_pair (S : ST) (x y : Int32) : EX me_N_pair 0 [.int x, .int y] S (fun r u => r = some (.int (x * nI 8 + y)) ∧ u = S) := by
  refine EX.of mok_N_pair (Nat.le_of_ble_eq_true rfl) ?_
  refine run_ok 5 (c' := (6, [(0, .int x), (1, .int y)], [.int ((x * (nI 8)) + y)], S)) rfl ?_
  exact x_ret (r := some (.int ((x * (nI 8)) + y))) rfl rfl trivial ⟨rfl, rfl⟩ rfl

theorem c_areTwo (S : ST) (x y : Int32) : EX me_N_areTwo 1 [.int x, .int y] S (fun r u => r = some (.int (b2 ((0 ≤ x ∧ x < nI 8) ∧ (0 ≤ y ∧ y < nI 8) ∧ ¬ x = y))) ∧ u = S) := by
  refine EX.of mok_N_areTwo (Nat.le_of_ble_eq_true rfl) ?_
  refine run_ok 2 (c' := (3, [(0, .int x), (1, .int y)], [.int (nI 8), .int x], S)) rfl ?_
  refine x_callS [.int x, .int (nI 8)] rfl cs_N_isBelow.1 lk_6_73 cs_N_isBelow.2.1 rfl rfl (Nat.le_of_ble_eq_true rfl) (by decide) cs_N_isBelow.2.2 (c_isBelow S x (nI 8)) ?_
  rintro r u ⟨hr, hu⟩
  rw [hr, hu]
  clear hr hu r u
  refine x_ifB_eq 27 rfl rfl (fun h6 => ?_) (fun h6 => ?_)
  · refine run_ok 1 (c' := (28, [(0, .int x), (1, .int y)], [.int (nI 0)], S)) rfl ?_
    exact x_ret (r := some (.int (nI 0))) rfl rfl (Or.inl rfl) ⟨congrArg (fun z => some (Value.int z)) (b2_f (fun z => by first | exact absurd z.1 (by assumption) | exact absurd z.2.1 (by assumption) | exact absurd (by assumption) z.2.2)).symm, rfl⟩ rfl
  · refine run_ok 2 (c' := (12, [(0, .int x), (1, .int y)], [.int (nI 8), .int y], S)) rfl ?_
    refine x_callS [.int y, .int (nI 8)] rfl cs_N_isBelow.1 lk_6_73 cs_N_isBelow.2.1 rfl rfl (Nat.le_of_ble_eq_true rfl) (by decide) cs_N_isBelow.2.2 (c_isBelow S y (nI 8)) ?_
    rintro r u ⟨hr, hu⟩
    rw [hr, hu]
    clear hr hu r u
    refine x_ifB_eq 27 rfl rfl (fun h15 => ?_) (fun h15 => ?_)
    · refine run_ok 1 (c' := (28, [(0, .int x), (1, .int y)], [.int (nI 0)], S)) rfl ?_
      exact x_ret (r := some (.int (nI 0))) rfl rfl (Or.inl rfl) ⟨congrArg (fun z => some (Value.int z)) (b2_f (fun z => by first | exact absurd z.1 (by assumption) | exact absurd z.2.1 (by assumption) | exact absurd (by assumption) z.2.2)).symm, rfl⟩ rfl
    · refine run_ok 2 (c' := (20, [(0, .int x), (1, .int y)], [.int y, .int x], S)) rfl ?_
      refine x_icmp_eq 27 rfl rfl (fun h20 => ?_) (fun h20 => ?_)
      · refine run_ok 1 (c' := (28, [(0, .int x), (1, .int y)], [.int (nI 0)], S)) rfl ?_
        exact x_ret (r := some (.int (nI 0))) rfl rfl (Or.inl rfl) ⟨congrArg (fun z => some (Value.int z)) (b2_f (fun z => by first | exact absurd z.1 (by assumption) | exact absurd z.2.1 (by assumption) | exact absurd (by assumption) z.2.2)).symm, rfl⟩ rfl
      · refine run_ok 2 (c' := (28, [(0, .int x), (1, .int y)], [.int (nI 1)], S)) rfl ?_
        exact x_ret (r := some (.int (nI 1))) rfl rfl (Or.inr rfl) ⟨congrArg (fun z => some (Value.int z)) (b2_t ⟨by assumption, by assumption, by assumption⟩).symm, rfl⟩ rfl

/-! sheets of the class -/
def fnd (lo fm sz f : Nat) (x : Int32) : Nat := if ¬ lo = 0 then 1 else if ¬ fm = f then 3 else if 0 ≤ x ∧ x < nI sz then 0 else 2
theorem fnd_le (lo fm sz f : Nat) (x : Int32) : fnd lo fm sz f x ≤ 3 := by
  unfold fnd
  split
  · omega
  · split
    · omega
    · split <;> omega
def cvt (fm : Nat) (v : Int32) : Int32 := if fm = 0 then v.toInt8.toInt32 else if fm = 1 then v.toInt16.toInt32 else v
/-- the sheet whose object is the cell k: lost, form, size -/
def HR (k lo fm sz : Nat) (u : ST) : Prop := u.1 k 3 = nI lo ∧ u.1 k 1 = nI fm ∧ u.1 k 2 = nI sz ∧ lo ≤ 1 ∧ fm ≤ 2 ∧ sz ≤ 60
set_option maxHeartbeats 2000000 in
theorem c_renew0 (S : ST) (f n : Nat) : EX me_H_renew 1 [.ref 38, .int (nI f), .int (nI n)] S (fun r u => r = none ∧ (∀ j, j < 60 → u.1 39 j = nI 0) ∧ u.1 38 1 = nI f ∧ u.1 38 2 = nI n ∧ u.1 38 3 = nI 0 ∧ fr [38, 39] S u ∧ u.2 = S.2) := by
  refine EX.of mok_H_renew (Nat.le_of_ble_eq_true rfl) ?_
  refine run_ok 3 (c' := (5, [(0, .ref 38), (1, .int (nI f)), (2, .int (nI n))], [.int (nI 0), .ref 39], S)) rfl ?_
  refine x_callS [.ref 39, .int (nI 0)] rfl cs_J_filli.1 lk_1_26 cs_J_filli.2.1 rfl rfl (Nat.le_of_ble_eq_true rfl) (by decide) cs_J_filli.2.2 (c_filli S 39 60 [] (nI 0) rfl (by decide)) ?_
  rintro r u ⟨hr, ha, hf, h2⟩
  rw [hr]
  clear hr r
  refine run_ok 9 (c' := (23, [(0, .ref 38), (1, .int (nI f)), (2, .int (nI n))], [], (pt (pt (pt u 38 1 (nI f)) 38 2 (nI n)) 38 3 (nI 0)))) rfl ?_
  exact x_ret (r := none) rfl rfl trivial ⟨rfl, ha, rfl, rfl, rfl, (((hf.sub (by decide)).pt (by decide)).pt (by decide)).pt (by decide), h2⟩ rfl

set_option maxHeartbeats 2000000 in
theorem c_findingAt0 (S : ST) (lo fm sz : Nat) (hH : HR 38 lo fm sz S) (f : Nat) (x : Int32) (hf3 : f < 3) : EX me_H_findingAt 1 [.ref 38, .int (nI f), .int x] S (fun r u => r = some (.int (nI (fnd lo fm sz f x))) ∧ u = S) := by
  refine EX.of mok_H_findingAt (Nat.le_of_ble_eq_true rfl) ?_
  obtain ⟨g3, g1, g2, hl1, hf2, hs60⟩ := id hH
  refine run_ok 2 (c' := (4, [(0, .ref 38), (1, .int (nI f)), (2, .int x)], [.int (S.1 38 3)], S)) rfl ?_
  refine x_top (v' := nI lo) g3 ?_
  refine x_ifN_eq 9 rfl rfl (by omega) (fun h4 => ?_) (fun h4 => ?_)
  · refine run_ok 2 (c' := (13, [(0, .ref 38), (1, .int (nI f)), (2, .int x)], [.int (S.1 38 1)], S)) rfl ?_
    refine x_top (v' := nI fm) g1 ?_
    refine run_ok 1 (c' := (14, [(0, .ref 38), (1, .int (nI f)), (2, .int x)], [.int (nI f), .int (nI fm)], S)) rfl ?_
    refine x_icmpN_eq 19 rfl rfl (by omega) (by omega) (fun h14 => ?_) (fun h14 => ?_)
    · refine run_ok 3 (c' := (24, [(0, .ref 38), (1, .int (nI f)), (2, .int x)], [.int (S.1 38 2), .int x], S)) rfl ?_
      refine x_top (v' := nI sz) g2 ?_
      refine x_callN [.int x, .int (nI sz)] rfl cs_N_isBelow.1 (fun U hU => hU.2.2) cs_N_isBelow.2.1 rfl rfl (Nat.le_of_ble_eq_true rfl) (by decide) cs_N_isBelow.2.2 (c_isBelow S (x) (nI sz)) ?_
      rintro r u ⟨hr, hu⟩
      rw [hr, hu]
      clear hr hu r u
      refine x_ifB_eq 34 rfl rfl (fun h27 => ?_) (fun h27 => ?_)
      · refine run_ok 1 (c' := (35, [(0, .ref 38), (1, .int (nI f)), (2, .int x)], [.int (nI 2)], S)) rfl ?_
        exact x_ret (r := some (.int (nI 2))) rfl rfl trivial ⟨congrArg (fun z => some (Value.int (nI z))) (show fnd lo fm sz f x = 2 from (if_neg (fun z => z h4)).trans ((if_neg (fun z => z h14)).trans (if_neg h27))).symm, rfl⟩ rfl
      · refine run_ok 2 (c' := (35, [(0, .ref 38), (1, .int (nI f)), (2, .int x)], [.int (nI 0)], S)) rfl ?_
        exact x_ret (r := some (.int (nI 0))) rfl rfl trivial ⟨congrArg (fun z => some (Value.int (nI z))) (show fnd lo fm sz f x = 0 from (if_neg (fun z => z h4)).trans ((if_neg (fun z => z h14)).trans (if_pos h27))).symm, rfl⟩ rfl
    · refine run_ok 1 (c' := (18, [(0, .ref 38), (1, .int (nI f)), (2, .int x)], [.int (nI 3)], S)) rfl ?_
      exact x_ret (r := some (.int (nI 3))) rfl rfl trivial ⟨congrArg (fun z => some (Value.int (nI z))) (show fnd lo fm sz f x = 3 from (if_neg (fun z => z h4)).trans (if_pos h14)).symm, rfl⟩ rfl
  · refine run_ok 1 (c' := (8, [(0, .ref 38), (1, .int (nI f)), (2, .int x)], [.int (nI 1)], S)) rfl ?_
    exact x_ret (r := some (.int (nI 1))) rfl rfl trivial ⟨congrArg (fun z => some (Value.int (nI z))) (show fnd lo fm sz f x = 1 from if_pos h4).symm, rfl⟩ rfl

set_option maxHeartbeats 2000000 in
theorem c_hasItems0 (S : ST) (lo fm sz : Nat) (hH : HR 38 lo fm sz S) (x y : Int32) : EX me_H_hasItems 0 [.ref 38, .int x, .int y] S (fun r u => r = some (.int (b2 (0 ≤ x ∧ 0 ≤ y ∧ y ≤ nI sz ∧ x ≤ nI sz - y))) ∧ u = S) := by
  refine EX.of mok_H_hasItems (Nat.le_of_ble_eq_true rfl) ?_
  obtain ⟨g3, g1, g2, hl1, hf2, hs60⟩ := id hH
  refine run_ok 1 (c' := (1, [(0, .ref 38), (1, .int x), (2, .int y)], [.int x], S)) rfl ?_
  refine x_if_lt 30 rfl rfl (fun h1 => ?_) (fun h1 => ?_)
  · refine run_ok 1 (c' := (31, [(0, .ref 38), (1, .int x), (2, .int y)], [.int (nI 0)], S)) rfl ?_
    exact x_ret (r := some (.int (nI 0))) rfl rfl (Or.inl rfl) ⟨congrArg (fun z => some (Value.int z)) (b2_f (fun z => by first | exact absurd h23 (Int32.not_lt.mpr z.2.2.2) | exact absurd h13 (Int32.not_lt.mpr z.2.2.1) | exact absurd h5 (Int32.not_lt.mpr z.2.1) | exact absurd h1 (Int32.not_lt.mpr z.1))).symm, rfl⟩ rfl
  · refine run_ok 1 (c' := (5, [(0, .ref 38), (1, .int x), (2, .int y)], [.int y], S)) rfl ?_
    refine x_if_lt 30 rfl rfl (fun h5 => ?_) (fun h5 => ?_)
    · refine run_ok 1 (c' := (31, [(0, .ref 38), (1, .int x), (2, .int y)], [.int (nI 0)], S)) rfl ?_
      exact x_ret (r := some (.int (nI 0))) rfl rfl (Or.inl rfl) ⟨congrArg (fun z => some (Value.int z)) (b2_f (fun z => by first | exact absurd h23 (Int32.not_lt.mpr z.2.2.2) | exact absurd h13 (Int32.not_lt.mpr z.2.2.1) | exact absurd h5 (Int32.not_lt.mpr z.2.1) | exact absurd h1 (Int32.not_lt.mpr z.1))).symm, rfl⟩ rfl
    · refine run_ok 3 (c' := (13, [(0, .ref 38), (1, .int x), (2, .int y)], [.int (S.1 38 2), .int y], S)) rfl ?_
      refine x_top (v' := nI sz) g2 ?_
      refine x_icmp_gt 30 rfl rfl (fun h13 => ?_) (fun h13 => ?_)
      · refine run_ok 1 (c' := (31, [(0, .ref 38), (1, .int x), (2, .int y)], [.int (nI 0)], S)) rfl ?_
        exact x_ret (r := some (.int (nI 0))) rfl rfl (Or.inl rfl) ⟨congrArg (fun z => some (Value.int z)) (b2_f (fun z => by first | exact absurd h23 (Int32.not_lt.mpr z.2.2.2) | exact absurd h13 (Int32.not_lt.mpr z.2.2.1) | exact absurd h5 (Int32.not_lt.mpr z.2.1) | exact absurd h1 (Int32.not_lt.mpr z.1))).symm, rfl⟩ rfl
      · refine run_ok 3 (c' := (21, [(0, .ref 38), (1, .int x), (2, .int y)], [.int (S.1 38 2), .int x], S)) rfl ?_
        refine x_top (v' := nI sz) g2 ?_
        refine run_ok 2 (c' := (23, [(0, .ref 38), (1, .int x), (2, .int y)], [.int ((nI sz) - y), .int x], S)) rfl ?_
        refine x_icmp_gt 30 rfl rfl (fun h23 => ?_) (fun h23 => ?_)
        · refine run_ok 1 (c' := (31, [(0, .ref 38), (1, .int x), (2, .int y)], [.int (nI 0)], S)) rfl ?_
          exact x_ret (r := some (.int (nI 0))) rfl rfl (Or.inl rfl) ⟨congrArg (fun z => some (Value.int z)) (b2_f (fun z => by first | exact absurd h23 (Int32.not_lt.mpr z.2.2.2) | exact absurd h13 (Int32.not_lt.mpr z.2.2.1) | exact absurd h5 (Int32.not_lt.mpr z.2.1) | exact absurd h1 (Int32.not_lt.mpr z.1))).symm, rfl⟩ rfl
        · refine run_ok 2 (c' := (31, [(0, .ref 38), (1, .int x), (2, .int y)], [.int (nI 1)], S)) rfl ?_
          exact x_ret (r := some (.int (nI 1))) rfl rfl (Or.inr rfl) ⟨congrArg (fun z => some (Value.int z)) (b2_t ⟨Int32.not_lt.mp h1, Int32.not_lt.mp h5, Int32.not_lt.mp h13, Int32.not_lt.mp h23⟩).symm, rfl⟩ rfl

set_option maxHeartbeats 2000000 in
theorem c_set0 (S : ST) (lo fm sz : Nat) (hH : HR 38 lo fm sz S) (i : Nat) (v : Int32) (hi : i < 60) : EX me_H_set 0 [.ref 38, .int (nI i), .int v] S (fun r u => r = none ∧ u = pt S 39 i (cvt fm v)) := by
  refine EX.of mok_H_set (Nat.le_of_ble_eq_true rfl) ?_
  obtain ⟨g3, g1, g2, hl1, hf2, hs60⟩ := id hH
  refine run_ok 5 (c' := (9, [(0, .ref 38), (1, .int (nI i)), (2, .int v)], [.int (S.1 38 1), .int (nI i), .ref 39], S)) rfl ?_
  refine x_top (v' := nI fm) g1 ?_
  refine x_ifN_ne 17 rfl rfl (by omega) (fun h9 => ?_) (fun h9 => ?_)
  · refine run_ok 2 (c' := (21, [(0, .ref 38), (1, .int (nI i)), (2, .int v)], [.int (S.1 38 1), .int (nI i), .ref 39], S)) rfl ?_
    refine x_top (v' := nI fm) g1 ?_
    refine run_ok 1 (c' := (22, [(0, .ref 38), (1, .int (nI i)), (2, .int v)], [.int (nI 1), .int (nI fm), .int (nI i), .ref 39], S)) rfl ?_
    refine x_icmpN_ne 30 rfl rfl (by omega) (by omega) (fun h22 => ?_) (fun h22 => ?_)
    · refine run_ok 1 (c' := (31, [(0, .ref 38), (1, .int (nI i)), (2, .int v)], [.int v, .int (nI i), .ref 39], S)) rfl ?_
      refine x_isN rfl rfl (by decide) (by omega) ?_
      exact x_ret (r := none) rfl rfl trivial ⟨rfl, congrArg (fun z => pt S 39 i z) (show cvt fm v = _ from (if_neg h9).trans (if_neg h22)).symm⟩ rfl
    · refine run_ok 3 (c' := (31, [(0, .ref 38), (1, .int (nI i)), (2, .int v)], [.int v.toInt16.toInt32, .int (nI i), .ref 39], S)) rfl ?_
      refine x_isN rfl rfl (by decide) (by omega) ?_
      exact x_ret (r := none) rfl rfl trivial ⟨rfl, congrArg (fun z => pt S 39 i z) (show cvt fm v = _ from (if_neg h9).trans (if_pos h22)).symm⟩ rfl
  · refine run_ok 3 (c' := (31, [(0, .ref 38), (1, .int (nI i)), (2, .int v)], [.int v.toInt8.toInt32, .int (nI i), .ref 39], S)) rfl ?_
    refine x_isN rfl rfl (by decide) (by omega) ?_
    exact x_ret (r := none) rfl rfl trivial ⟨rfl, congrArg (fun z => pt S 39 i z) (show cvt fm v = _ from if_pos h9).symm⟩ rfl

set_option maxHeartbeats 2000000 in
theorem c_renew1 (S : ST) (f n : Nat) : EX me_H_renew 1 [.ref 40, .int (nI f), .int (nI n)] S (fun r u => r = none ∧ (∀ j, j < 60 → u.1 41 j = nI 0) ∧ u.1 40 1 = nI f ∧ u.1 40 2 = nI n ∧ u.1 40 3 = nI 0 ∧ fr [40, 41] S u ∧ u.2 = S.2) := by
  refine EX.of mok_H_renew (Nat.le_of_ble_eq_true rfl) ?_
  refine run_ok 3 (c' := (5, [(0, .ref 40), (1, .int (nI f)), (2, .int (nI n))], [.int (nI 0), .ref 41], S)) rfl ?_
  refine x_callS [.ref 41, .int (nI 0)] rfl cs_J_filli.1 lk_1_26 cs_J_filli.2.1 rfl rfl (Nat.le_of_ble_eq_true rfl) (by decide) cs_J_filli.2.2 (c_filli S 41 60 [] (nI 0) rfl (by decide)) ?_
  rintro r u ⟨hr, ha, hf, h2⟩
  rw [hr]
  clear hr r
  refine run_ok 9 (c' := (23, [(0, .ref 40), (1, .int (nI f)), (2, .int (nI n))], [], (pt (pt (pt u 40 1 (nI f)) 40 2 (nI n)) 40 3 (nI 0)))) rfl ?_
  exact x_ret (r := none) rfl rfl trivial ⟨rfl, ha, rfl, rfl, rfl, (((hf.sub (by decide)).pt (by decide)).pt (by decide)).pt (by decide), h2⟩ rfl

set_option maxHeartbeats 2000000 in
theorem c_findingAt1 (S : ST) (lo fm sz : Nat) (hH : HR 40 lo fm sz S) (f : Nat) (x : Int32) (hf3 : f < 3) : EX me_H_findingAt 1 [.ref 40, .int (nI f), .int x] S (fun r u => r = some (.int (nI (fnd lo fm sz f x))) ∧ u = S) := by
  refine EX.of mok_H_findingAt (Nat.le_of_ble_eq_true rfl) ?_
  obtain ⟨g3, g1, g2, hl1, hf2, hs60⟩ := id hH
  refine run_ok 2 (c' := (4, [(0, .ref 40), (1, .int (nI f)), (2, .int x)], [.int (S.1 40 3)], S)) rfl ?_
  refine x_top (v' := nI lo) g3 ?_
  refine x_ifN_eq 9 rfl rfl (by omega) (fun h4 => ?_) (fun h4 => ?_)
  · refine run_ok 2 (c' := (13, [(0, .ref 40), (1, .int (nI f)), (2, .int x)], [.int (S.1 40 1)], S)) rfl ?_
    refine x_top (v' := nI fm) g1 ?_
    refine run_ok 1 (c' := (14, [(0, .ref 40), (1, .int (nI f)), (2, .int x)], [.int (nI f), .int (nI fm)], S)) rfl ?_
    refine x_icmpN_eq 19 rfl rfl (by omega) (by omega) (fun h14 => ?_) (fun h14 => ?_)
    · refine run_ok 3 (c' := (24, [(0, .ref 40), (1, .int (nI f)), (2, .int x)], [.int (S.1 40 2), .int x], S)) rfl ?_
      refine x_top (v' := nI sz) g2 ?_
      refine x_callN [.int x, .int (nI sz)] rfl cs_N_isBelow.1 (fun U hU => hU.2.2) cs_N_isBelow.2.1 rfl rfl (Nat.le_of_ble_eq_true rfl) (by decide) cs_N_isBelow.2.2 (c_isBelow S (x) (nI sz)) ?_
      rintro r u ⟨hr, hu⟩
      rw [hr, hu]
      clear hr hu r u
      refine x_ifB_eq 34 rfl rfl (fun h27 => ?_) (fun h27 => ?_)
      · refine run_ok 1 (c' := (35, [(0, .ref 40), (1, .int (nI f)), (2, .int x)], [.int (nI 2)], S)) rfl ?_
        exact x_ret (r := some (.int (nI 2))) rfl rfl trivial ⟨congrArg (fun z => some (Value.int (nI z))) (show fnd lo fm sz f x = 2 from (if_neg (fun z => z h4)).trans ((if_neg (fun z => z h14)).trans (if_neg h27))).symm, rfl⟩ rfl
      · refine run_ok 2 (c' := (35, [(0, .ref 40), (1, .int (nI f)), (2, .int x)], [.int (nI 0)], S)) rfl ?_
        exact x_ret (r := some (.int (nI 0))) rfl rfl trivial ⟨congrArg (fun z => some (Value.int (nI z))) (show fnd lo fm sz f x = 0 from (if_neg (fun z => z h4)).trans ((if_neg (fun z => z h14)).trans (if_pos h27))).symm, rfl⟩ rfl
    · refine run_ok 1 (c' := (18, [(0, .ref 40), (1, .int (nI f)), (2, .int x)], [.int (nI 3)], S)) rfl ?_
      exact x_ret (r := some (.int (nI 3))) rfl rfl trivial ⟨congrArg (fun z => some (Value.int (nI z))) (show fnd lo fm sz f x = 3 from (if_neg (fun z => z h4)).trans (if_pos h14)).symm, rfl⟩ rfl
  · refine run_ok 1 (c' := (8, [(0, .ref 40), (1, .int (nI f)), (2, .int x)], [.int (nI 1)], S)) rfl ?_
    exact x_ret (r := some (.int (nI 1))) rfl rfl trivial ⟨congrArg (fun z => some (Value.int (nI z))) (show fnd lo fm sz f x = 1 from if_pos h4).symm, rfl⟩ rfl

set_option maxHeartbeats 2000000 in
theorem c_hasItems1 (S : ST) (lo fm sz : Nat) (hH : HR 40 lo fm sz S) (x y : Int32) : EX me_H_hasItems 0 [.ref 40, .int x, .int y] S (fun r u => r = some (.int (b2 (0 ≤ x ∧ 0 ≤ y ∧ y ≤ nI sz ∧ x ≤ nI sz - y))) ∧ u = S) := by
  refine EX.of mok_H_hasItems (Nat.le_of_ble_eq_true rfl) ?_
  obtain ⟨g3, g1, g2, hl1, hf2, hs60⟩ := id hH
  refine run_ok 1 (c' := (1, [(0, .ref 40), (1, .int x), (2, .int y)], [.int x], S)) rfl ?_
  refine x_if_lt 30 rfl rfl (fun h1 => ?_) (fun h1 => ?_)
  · refine run_ok 1 (c' := (31, [(0, .ref 40), (1, .int x), (2, .int y)], [.int (nI 0)], S)) rfl ?_
    exact x_ret (r := some (.int (nI 0))) rfl rfl (Or.inl rfl) ⟨congrArg (fun z => some (Value.int z)) (b2_f (fun z => by first | exact absurd h23 (Int32.not_lt.mpr z.2.2.2) | exact absurd h13 (Int32.not_lt.mpr z.2.2.1) | exact absurd h5 (Int32.not_lt.mpr z.2.1) | exact absurd h1 (Int32.not_lt.mpr z.1))).symm, rfl⟩ rfl
  · refine run_ok 1 (c' := (5, [(0, .ref 40), (1, .int x), (2, .int y)], [.int y], S)) rfl ?_
    refine x_if_lt 30 rfl rfl (fun h5 => ?_) (fun h5 => ?_)
    · refine run_ok 1 (c' := (31, [(0, .ref 40), (1, .int x), (2, .int y)], [.int (nI 0)], S)) rfl ?_
      exact x_ret (r := some (.int (nI 0))) rfl rfl (Or.inl rfl) ⟨congrArg (fun z => some (Value.int z)) (b2_f (fun z => by first | exact absurd h23 (Int32.not_lt.mpr z.2.2.2) | exact absurd h13 (Int32.not_lt.mpr z.2.2.1) | exact absurd h5 (Int32.not_lt.mpr z.2.1) | exact absurd h1 (Int32.not_lt.mpr z.1))).symm, rfl⟩ rfl
    · refine run_ok 3 (c' := (13, [(0, .ref 40), (1, .int x), (2, .int y)], [.int (S.1 40 2), .int y], S)) rfl ?_
      refine x_top (v' := nI sz) g2 ?_
      refine x_icmp_gt 30 rfl rfl (fun h13 => ?_) (fun h13 => ?_)
      · refine run_ok 1 (c' := (31, [(0, .ref 40), (1, .int x), (2, .int y)], [.int (nI 0)], S)) rfl ?_
        exact x_ret (r := some (.int (nI 0))) rfl rfl (Or.inl rfl) ⟨congrArg (fun z => some (Value.int z)) (b2_f (fun z => by first | exact absurd h23 (Int32.not_lt.mpr z.2.2.2) | exact absurd h13 (Int32.not_lt.mpr z.2.2.1) | exact absurd h5 (Int32.not_lt.mpr z.2.1) | exact absurd h1 (Int32.not_lt.mpr z.1))).symm, rfl⟩ rfl
      · refine run_ok 3 (c' := (21, [(0, .ref 40), (1, .int x), (2, .int y)], [.int (S.1 40 2), .int x], S)) rfl ?_
        refine x_top (v' := nI sz) g2 ?_
        refine run_ok 2 (c' := (23, [(0, .ref 40), (1, .int x), (2, .int y)], [.int ((nI sz) - y), .int x], S)) rfl ?_
        refine x_icmp_gt 30 rfl rfl (fun h23 => ?_) (fun h23 => ?_)
        · refine run_ok 1 (c' := (31, [(0, .ref 40), (1, .int x), (2, .int y)], [.int (nI 0)], S)) rfl ?_
          exact x_ret (r := some (.int (nI 0))) rfl rfl (Or.inl rfl) ⟨congrArg (fun z => some (Value.int z)) (b2_f (fun z => by first | exact absurd h23 (Int32.not_lt.mpr z.2.2.2) | exact absurd h13 (Int32.not_lt.mpr z.2.2.1) | exact absurd h5 (Int32.not_lt.mpr z.2.1) | exact absurd h1 (Int32.not_lt.mpr z.1))).symm, rfl⟩ rfl
        · refine run_ok 2 (c' := (31, [(0, .ref 40), (1, .int x), (2, .int y)], [.int (nI 1)], S)) rfl ?_
          exact x_ret (r := some (.int (nI 1))) rfl rfl (Or.inr rfl) ⟨congrArg (fun z => some (Value.int z)) (b2_t ⟨Int32.not_lt.mp h1, Int32.not_lt.mp h5, Int32.not_lt.mp h13, Int32.not_lt.mp h23⟩).symm, rfl⟩ rfl

set_option maxHeartbeats 2000000 in
theorem c_set1 (S : ST) (lo fm sz : Nat) (hH : HR 40 lo fm sz S) (i : Nat) (v : Int32) (hi : i < 60) : EX me_H_set 0 [.ref 40, .int (nI i), .int v] S (fun r u => r = none ∧ u = pt S 41 i (cvt fm v)) := by
  refine EX.of mok_H_set (Nat.le_of_ble_eq_true rfl) ?_
  obtain ⟨g3, g1, g2, hl1, hf2, hs60⟩ := id hH
  refine run_ok 5 (c' := (9, [(0, .ref 40), (1, .int (nI i)), (2, .int v)], [.int (S.1 40 1), .int (nI i), .ref 41], S)) rfl ?_
  refine x_top (v' := nI fm) g1 ?_
  refine x_ifN_ne 17 rfl rfl (by omega) (fun h9 => ?_) (fun h9 => ?_)
  · refine run_ok 2 (c' := (21, [(0, .ref 40), (1, .int (nI i)), (2, .int v)], [.int (S.1 40 1), .int (nI i), .ref 41], S)) rfl ?_
    refine x_top (v' := nI fm) g1 ?_
    refine run_ok 1 (c' := (22, [(0, .ref 40), (1, .int (nI i)), (2, .int v)], [.int (nI 1), .int (nI fm), .int (nI i), .ref 41], S)) rfl ?_
    refine x_icmpN_ne 30 rfl rfl (by omega) (by omega) (fun h22 => ?_) (fun h22 => ?_)
    · refine run_ok 1 (c' := (31, [(0, .ref 40), (1, .int (nI i)), (2, .int v)], [.int v, .int (nI i), .ref 41], S)) rfl ?_
      refine x_isN rfl rfl (by decide) (by omega) ?_
      exact x_ret (r := none) rfl rfl trivial ⟨rfl, congrArg (fun z => pt S 41 i z) (show cvt fm v = _ from (if_neg h9).trans (if_neg h22)).symm⟩ rfl
    · refine run_ok 3 (c' := (31, [(0, .ref 40), (1, .int (nI i)), (2, .int v)], [.int v.toInt16.toInt32, .int (nI i), .ref 41], S)) rfl ?_
      refine x_isN rfl rfl (by decide) (by omega) ?_
      exact x_ret (r := none) rfl rfl trivial ⟨rfl, congrArg (fun z => pt S 41 i z) (show cvt fm v = _ from (if_neg h9).trans (if_pos h22)).symm⟩ rfl
  · refine run_ok 3 (c' := (31, [(0, .ref 40), (1, .int (nI i)), (2, .int v)], [.int v.toInt8.toInt32, .int (nI i), .ref 41], S)) rfl ?_
    refine x_isN rfl rfl (by decide) (by omega) ?_
    exact x_ret (r := none) rfl rfl trivial ⟨rfl, congrArg (fun z => pt S 41 i z) (show cvt fm v = _ from if_pos h9).symm⟩ rfl

set_option maxHeartbeats 2000000 in
theorem c_renew2 (S : ST) (f n : Nat) : EX me_H_renew 1 [.ref 42, .int (nI f), .int (nI n)] S (fun r u => r = none ∧ (∀ j, j < 60 → u.1 43 j = nI 0) ∧ u.1 42 1 = nI f ∧ u.1 42 2 = nI n ∧ u.1 42 3 = nI 0 ∧ fr [42, 43] S u ∧ u.2 = S.2) := by
  refine EX.of mok_H_renew (Nat.le_of_ble_eq_true rfl) ?_
  refine run_ok 3 (c' := (5, [(0, .ref 42), (1, .int (nI f)), (2, .int (nI n))], [.int (nI 0), .ref 43], S)) rfl ?_
  refine x_callS [.ref 43, .int (nI 0)] rfl cs_J_filli.1 lk_1_26 cs_J_filli.2.1 rfl rfl (Nat.le_of_ble_eq_true rfl) (by decide) cs_J_filli.2.2 (c_filli S 43 60 [] (nI 0) rfl (by decide)) ?_
  rintro r u ⟨hr, ha, hf, h2⟩
  rw [hr]
  clear hr r
  refine run_ok 9 (c' := (23, [(0, .ref 42), (1, .int (nI f)), (2, .int (nI n))], [], (pt (pt (pt u 42 1 (nI f)) 42 2 (nI n)) 42 3 (nI 0)))) rfl ?_
  exact x_ret (r := none) rfl rfl trivial ⟨rfl, ha, rfl, rfl, rfl, (((hf.sub (by decide)).pt (by decide)).pt (by decide)).pt (by decide), h2⟩ rfl

set_option maxHeartbeats 2000000 in
theorem c_findingAt2 (S : ST) (lo fm sz : Nat) (hH : HR 42 lo fm sz S) (f : Nat) (x : Int32) (hf3 : f < 3) : EX me_H_findingAt 1 [.ref 42, .int (nI f), .int x] S (fun r u => r = some (.int (nI (fnd lo fm sz f x))) ∧ u = S) := by
  refine EX.of mok_H_findingAt (Nat.le_of_ble_eq_true rfl) ?_
  obtain ⟨g3, g1, g2, hl1, hf2, hs60⟩ := id hH
  refine run_ok 2 (c' := (4, [(0, .ref 42), (1, .int (nI f)), (2, .int x)], [.int (S.1 42 3)], S)) rfl ?_
  refine x_top (v' := nI lo) g3 ?_
  refine x_ifN_eq 9 rfl rfl (by omega) (fun h4 => ?_) (fun h4 => ?_)
  · refine run_ok 2 (c' := (13, [(0, .ref 42), (1, .int (nI f)), (2, .int x)], [.int (S.1 42 1)], S)) rfl ?_
    refine x_top (v' := nI fm) g1 ?_
    refine run_ok 1 (c' := (14, [(0, .ref 42), (1, .int (nI f)), (2, .int x)], [.int (nI f), .int (nI fm)], S)) rfl ?_
    refine x_icmpN_eq 19 rfl rfl (by omega) (by omega) (fun h14 => ?_) (fun h14 => ?_)
    · refine run_ok 3 (c' := (24, [(0, .ref 42), (1, .int (nI f)), (2, .int x)], [.int (S.1 42 2), .int x], S)) rfl ?_
      refine x_top (v' := nI sz) g2 ?_
      refine x_callN [.int x, .int (nI sz)] rfl cs_N_isBelow.1 (fun U hU => hU.2.2) cs_N_isBelow.2.1 rfl rfl (Nat.le_of_ble_eq_true rfl) (by decide) cs_N_isBelow.2.2 (c_isBelow S (x) (nI sz)) ?_
      rintro r u ⟨hr, hu⟩
      rw [hr, hu]
      clear hr hu r u
      refine x_ifB_eq 34 rfl rfl (fun h27 => ?_) (fun h27 => ?_)
      · refine run_ok 1 (c' := (35, [(0, .ref 42), (1, .int (nI f)), (2, .int x)], [.int (nI 2)], S)) rfl ?_
        exact x_ret (r := some (.int (nI 2))) rfl rfl trivial ⟨congrArg (fun z => some (Value.int (nI z))) (show fnd lo fm sz f x = 2 from (if_neg (fun z => z h4)).trans ((if_neg (fun z => z h14)).trans (if_neg h27))).symm, rfl⟩ rfl
      · refine run_ok 2 (c' := (35, [(0, .ref 42), (1, .int (nI f)), (2, .int x)], [.int (nI 0)], S)) rfl ?_
        exact x_ret (r := some (.int (nI 0))) rfl rfl trivial ⟨congrArg (fun z => some (Value.int (nI z))) (show fnd lo fm sz f x = 0 from (if_neg (fun z => z h4)).trans ((if_neg (fun z => z h14)).trans (if_pos h27))).symm, rfl⟩ rfl
    · refine run_ok 1 (c' := (18, [(0, .ref 42), (1, .int (nI f)), (2, .int x)], [.int (nI 3)], S)) rfl ?_
      exact x_ret (r := some (.int (nI 3))) rfl rfl trivial ⟨congrArg (fun z => some (Value.int (nI z))) (show fnd lo fm sz f x = 3 from (if_neg (fun z => z h4)).trans (if_pos h14)).symm, rfl⟩ rfl
  · refine run_ok 1 (c' := (8, [(0, .ref 42), (1, .int (nI f)), (2, .int x)], [.int (nI 1)], S)) rfl ?_
    exact x_ret (r := some (.int (nI 1))) rfl rfl trivial ⟨congrArg (fun z => some (Value.int (nI z))) (show fnd lo fm sz f x = 1 from if_pos h4).symm, rfl⟩ rfl

set_option maxHeartbeats 2000000 in
theorem c_hasItems2 (S : ST) (lo fm sz : Nat) (hH : HR 42 lo fm sz S) (x y : Int32) : EX me_H_hasItems 0 [.ref 42, .int x, .int y] S (fun r u => r = some (.int (b2 (0 ≤ x ∧ 0 ≤ y ∧ y ≤ nI sz ∧ x ≤ nI sz - y))) ∧ u = S) := by
  refine EX.of mok_H_hasItems (Nat.le_of_ble_eq_true rfl) ?_
  obtain ⟨g3, g1, g2, hl1, hf2, hs60⟩ := id hH
  refine run_ok 1 (c' := (1, [(0, .ref 42), (1, .int x), (2, .int y)], [.int x], S)) rfl ?_
  refine x_if_lt 30 rfl rfl (fun h1 => ?_) (fun h1 => ?_)
  · refine run_ok 1 (c' := (31, [(0, .ref 42), (1, .int x), (2, .int y)], [.int (nI 0)], S)) rfl ?_
    exact x_ret (r := some (.int (nI 0))) rfl rfl (Or.inl rfl) ⟨congrArg (fun z => some (Value.int z)) (b2_f (fun z => by first | exact absurd h23 (Int32.not_lt.mpr z.2.2.2) | exact absurd h13 (Int32.not_lt.mpr z.2.2.1) | exact absurd h5 (Int32.not_lt.mpr z.2.1) | exact absurd h1 (Int32.not_lt.mpr z.1))).symm, rfl⟩ rfl
  · refine run_ok 1 (c' := (5, [(0, .ref 42), (1, .int x), (2, .int y)], [.int y], S)) rfl ?_
    refine x_if_lt 30 rfl rfl (fun h5 => ?_) (fun h5 => ?_)
    · refine run_ok 1 (c' := (31, [(0, .ref 42), (1, .int x), (2, .int y)], [.int (nI 0)], S)) rfl ?_
      exact x_ret (r := some (.int (nI 0))) rfl rfl (Or.inl rfl) ⟨congrArg (fun z => some (Value.int z)) (b2_f (fun z => by first | exact absurd h23 (Int32.not_lt.mpr z.2.2.2) | exact absurd h13 (Int32.not_lt.mpr z.2.2.1) | exact absurd h5 (Int32.not_lt.mpr z.2.1) | exact absurd h1 (Int32.not_lt.mpr z.1))).symm, rfl⟩ rfl
    · refine run_ok 3 (c' := (13, [(0, .ref 42), (1, .int x), (2, .int y)], [.int (S.1 42 2), .int y], S)) rfl ?_
      refine x_top (v' := nI sz) g2 ?_
      refine x_icmp_gt 30 rfl rfl (fun h13 => ?_) (fun h13 => ?_)
      · refine run_ok 1 (c' := (31, [(0, .ref 42), (1, .int x), (2, .int y)], [.int (nI 0)], S)) rfl ?_
        exact x_ret (r := some (.int (nI 0))) rfl rfl (Or.inl rfl) ⟨congrArg (fun z => some (Value.int z)) (b2_f (fun z => by first | exact absurd h23 (Int32.not_lt.mpr z.2.2.2) | exact absurd h13 (Int32.not_lt.mpr z.2.2.1) | exact absurd h5 (Int32.not_lt.mpr z.2.1) | exact absurd h1 (Int32.not_lt.mpr z.1))).symm, rfl⟩ rfl
      · refine run_ok 3 (c' := (21, [(0, .ref 42), (1, .int x), (2, .int y)], [.int (S.1 42 2), .int x], S)) rfl ?_
        refine x_top (v' := nI sz) g2 ?_
        refine run_ok 2 (c' := (23, [(0, .ref 42), (1, .int x), (2, .int y)], [.int ((nI sz) - y), .int x], S)) rfl ?_
        refine x_icmp_gt 30 rfl rfl (fun h23 => ?_) (fun h23 => ?_)
        · refine run_ok 1 (c' := (31, [(0, .ref 42), (1, .int x), (2, .int y)], [.int (nI 0)], S)) rfl ?_
          exact x_ret (r := some (.int (nI 0))) rfl rfl (Or.inl rfl) ⟨congrArg (fun z => some (Value.int z)) (b2_f (fun z => by first | exact absurd h23 (Int32.not_lt.mpr z.2.2.2) | exact absurd h13 (Int32.not_lt.mpr z.2.2.1) | exact absurd h5 (Int32.not_lt.mpr z.2.1) | exact absurd h1 (Int32.not_lt.mpr z.1))).symm, rfl⟩ rfl
        · refine run_ok 2 (c' := (31, [(0, .ref 42), (1, .int x), (2, .int y)], [.int (nI 1)], S)) rfl ?_
          exact x_ret (r := some (.int (nI 1))) rfl rfl (Or.inr rfl) ⟨congrArg (fun z => some (Value.int z)) (b2_t ⟨Int32.not_lt.mp h1, Int32.not_lt.mp h5, Int32.not_lt.mp h13, Int32.not_lt.mp h23⟩).symm, rfl⟩ rfl

set_option maxHeartbeats 2000000 in
theorem c_set2 (S : ST) (lo fm sz : Nat) (hH : HR 42 lo fm sz S) (i : Nat) (v : Int32) (hi : i < 60) : EX me_H_set 0 [.ref 42, .int (nI i), .int v] S (fun r u => r = none ∧ u = pt S 43 i (cvt fm v)) := by
  refine EX.of mok_H_set (Nat.le_of_ble_eq_true rfl) ?_
  obtain ⟨g3, g1, g2, hl1, hf2, hs60⟩ := id hH
  refine run_ok 5 (c' := (9, [(0, .ref 42), (1, .int (nI i)), (2, .int v)], [.int (S.1 42 1), .int (nI i), .ref 43], S)) rfl ?_
  refine x_top (v' := nI fm) g1 ?_
  refine x_ifN_ne 17 rfl rfl (by omega) (fun h9 => ?_) (fun h9 => ?_)
  · refine run_ok 2 (c' := (21, [(0, .ref 42), (1, .int (nI i)), (2, .int v)], [.int (S.1 42 1), .int (nI i), .ref 43], S)) rfl ?_
    refine x_top (v' := nI fm) g1 ?_
    refine run_ok 1 (c' := (22, [(0, .ref 42), (1, .int (nI i)), (2, .int v)], [.int (nI 1), .int (nI fm), .int (nI i), .ref 43], S)) rfl ?_
    refine x_icmpN_ne 30 rfl rfl (by omega) (by omega) (fun h22 => ?_) (fun h22 => ?_)
    · refine run_ok 1 (c' := (31, [(0, .ref 42), (1, .int (nI i)), (2, .int v)], [.int v, .int (nI i), .ref 43], S)) rfl ?_
      refine x_isN rfl rfl (by decide) (by omega) ?_
      exact x_ret (r := none) rfl rfl trivial ⟨rfl, congrArg (fun z => pt S 43 i z) (show cvt fm v = _ from (if_neg h9).trans (if_neg h22)).symm⟩ rfl
    · refine run_ok 3 (c' := (31, [(0, .ref 42), (1, .int (nI i)), (2, .int v)], [.int v.toInt16.toInt32, .int (nI i), .ref 43], S)) rfl ?_
      refine x_isN rfl rfl (by decide) (by omega) ?_
      exact x_ret (r := none) rfl rfl trivial ⟨rfl, congrArg (fun z => pt S 43 i z) (show cvt fm v = _ from (if_neg h9).trans (if_pos h22)).symm⟩ rfl
  · refine run_ok 3 (c' := (31, [(0, .ref 42), (1, .int (nI i)), (2, .int v)], [.int v.toInt8.toInt32, .int (nI i), .ref 43], S)) rfl ?_
    refine x_isN rfl rfl (by decide) (by omega) ?_
    exact x_ret (r := none) rfl rfl trivial ⟨rfl, congrArg (fun z => pt S 43 i z) (show cvt fm v = _ from if_pos h9).symm⟩ rfl

set_option maxHeartbeats 2000000 in
theorem c_renew3 (S : ST) (f n : Nat) : EX me_H_renew 1 [.ref 44, .int (nI f), .int (nI n)] S (fun r u => r = none ∧ (∀ j, j < 60 → u.1 45 j = nI 0) ∧ u.1 44 1 = nI f ∧ u.1 44 2 = nI n ∧ u.1 44 3 = nI 0 ∧ fr [44, 45] S u ∧ u.2 = S.2) := by
  refine EX.of mok_H_renew (Nat.le_of_ble_eq_true rfl) ?_
  refine run_ok 3 (c' := (5, [(0, .ref 44), (1, .int (nI f)), (2, .int (nI n))], [.int (nI 0), .ref 45], S)) rfl ?_
  refine x_callS [.ref 45, .int (nI 0)] rfl cs_J_filli.1 lk_1_26 cs_J_filli.2.1 rfl rfl (Nat.le_of_ble_eq_true rfl) (by decide) cs_J_filli.2.2 (c_filli S 45 60 [] (nI 0) rfl (by decide)) ?_
  rintro r u ⟨hr, ha, hf, h2⟩
  rw [hr]
  clear hr r
  refine run_ok 9 (c' := (23, [(0, .ref 44), (1, .int (nI f)), (2, .int (nI n))], [], (pt (pt (pt u 44 1 (nI f)) 44 2 (nI n)) 44 3 (nI 0)))) rfl ?_
  exact x_ret (r := none) rfl rfl trivial ⟨rfl, ha, rfl, rfl, rfl, (((hf.sub (by decide)).pt (by decide)).pt (by decide)).pt (by decide), h2⟩ rfl

set_option maxHeartbeats 2000000 in
theorem c_findingAt3 (S : ST) (lo fm sz : Nat) (hH : HR 44 lo fm sz S) (f : Nat) (x : Int32) (hf3 : f < 3) : EX me_H_findingAt 1 [.ref 44, .int (nI f), .int x] S (fun r u => r = some (.int (nI (fnd lo fm sz f x))) ∧ u = S) := by
  refine EX.of mok_H_findingAt (Nat.le_of_ble_eq_true rfl) ?_
  obtain ⟨g3, g1, g2, hl1, hf2, hs60⟩ := id hH
  refine run_ok 2 (c' := (4, [(0, .ref 44), (1, .int (nI f)), (2, .int x)], [.int (S.1 44 3)], S)) rfl ?_
  refine x_top (v' := nI lo) g3 ?_
  refine x_ifN_eq 9 rfl rfl (by omega) (fun h4 => ?_) (fun h4 => ?_)
  · refine run_ok 2 (c' := (13, [(0, .ref 44), (1, .int (nI f)), (2, .int x)], [.int (S.1 44 1)], S)) rfl ?_
    refine x_top (v' := nI fm) g1 ?_
    refine run_ok 1 (c' := (14, [(0, .ref 44), (1, .int (nI f)), (2, .int x)], [.int (nI f), .int (nI fm)], S)) rfl ?_
    refine x_icmpN_eq 19 rfl rfl (by omega) (by omega) (fun h14 => ?_) (fun h14 => ?_)
    · refine run_ok 3 (c' := (24, [(0, .ref 44), (1, .int (nI f)), (2, .int x)], [.int (S.1 44 2), .int x], S)) rfl ?_
      refine x_top (v' := nI sz) g2 ?_
      refine x_callN [.int x, .int (nI sz)] rfl cs_N_isBelow.1 (fun U hU => hU.2.2) cs_N_isBelow.2.1 rfl rfl (Nat.le_of_ble_eq_true rfl) (by decide) cs_N_isBelow.2.2 (c_isBelow S (x) (nI sz)) ?_
      rintro r u ⟨hr, hu⟩
      rw [hr, hu]
      clear hr hu r u
      refine x_ifB_eq 34 rfl rfl (fun h27 => ?_) (fun h27 => ?_)
      · refine run_ok 1 (c' := (35, [(0, .ref 44), (1, .int (nI f)), (2, .int x)], [.int (nI 2)], S)) rfl ?_
        exact x_ret (r := some (.int (nI 2))) rfl rfl trivial ⟨congrArg (fun z => some (Value.int (nI z))) (show fnd lo fm sz f x = 2 from (if_neg (fun z => z h4)).trans ((if_neg (fun z => z h14)).trans (if_neg h27))).symm, rfl⟩ rfl
      · refine run_ok 2 (c' := (35, [(0, .ref 44), (1, .int (nI f)), (2, .int x)], [.int (nI 0)], S)) rfl ?_
        exact x_ret (r := some (.int (nI 0))) rfl rfl trivial ⟨congrArg (fun z => some (Value.int (nI z))) (show fnd lo fm sz f x = 0 from (if_neg (fun z => z h4)).trans ((if_neg (fun z => z h14)).trans (if_pos h27))).symm, rfl⟩ rfl
    · refine run_ok 1 (c' := (18, [(0, .ref 44), (1, .int (nI f)), (2, .int x)], [.int (nI 3)], S)) rfl ?_
      exact x_ret (r := some (.int (nI 3))) rfl rfl trivial ⟨congrArg (fun z => some (Value.int (nI z))) (show fnd lo fm sz f x = 3 from (if_neg (fun z => z h4)).trans (if_pos h14)).symm, rfl⟩ rfl
  · refine run_ok 1 (c' := (8, [(0, .ref 44), (1, .int (nI f)), (2, .int x)], [.int (nI 1)], S)) rfl ?_
    exact x_ret (r := some (.int (nI 1))) rfl rfl trivial ⟨congrArg (fun z => some (Value.int (nI z))) (show fnd lo fm sz f x = 1 from if_pos h4).symm, rfl⟩ rfl

set_option maxHeartbeats 2000000 in
theorem c_hasItems3 (S : ST) (lo fm sz : Nat) (hH : HR 44 lo fm sz S) (x y : Int32) : EX me_H_hasItems 0 [.ref 44, .int x, .int y] S (fun r u => r = some (.int (b2 (0 ≤ x ∧ 0 ≤ y ∧ y ≤ nI sz ∧ x ≤ nI sz - y))) ∧ u = S) := by
  refine EX.of mok_H_hasItems (Nat.le_of_ble_eq_true rfl) ?_
  obtain ⟨g3, g1, g2, hl1, hf2, hs60⟩ := id hH
  refine run_ok 1 (c' := (1, [(0, .ref 44), (1, .int x), (2, .int y)], [.int x], S)) rfl ?_
  refine x_if_lt 30 rfl rfl (fun h1 => ?_) (fun h1 => ?_)
  · refine run_ok 1 (c' := (31, [(0, .ref 44), (1, .int x), (2, .int y)], [.int (nI 0)], S)) rfl ?_
    exact x_ret (r := some (.int (nI 0))) rfl rfl (Or.inl rfl) ⟨congrArg (fun z => some (Value.int z)) (b2_f (fun z => by first | exact absurd h23 (Int32.not_lt.mpr z.2.2.2) | exact absurd h13 (Int32.not_lt.mpr z.2.2.1) | exact absurd h5 (Int32.not_lt.mpr z.2.1) | exact absurd h1 (Int32.not_lt.mpr z.1))).symm, rfl⟩ rfl
  · refine run_ok 1 (c' := (5, [(0, .ref 44), (1, .int x), (2, .int y)], [.int y], S)) rfl ?_
    refine x_if_lt 30 rfl rfl (fun h5 => ?_) (fun h5 => ?_)
    · refine run_ok 1 (c' := (31, [(0, .ref 44), (1, .int x), (2, .int y)], [.int (nI 0)], S)) rfl ?_
      exact x_ret (r := some (.int (nI 0))) rfl rfl (Or.inl rfl) ⟨congrArg (fun z => some (Value.int z)) (b2_f (fun z => by first | exact absurd h23 (Int32.not_lt.mpr z.2.2.2) | exact absurd h13 (Int32.not_lt.mpr z.2.2.1) | exact absurd h5 (Int32.not_lt.mpr z.2.1) | exact absurd h1 (Int32.not_lt.mpr z.1))).symm, rfl⟩ rfl
    · refine run_ok 3 (c' := (13, [(0, .ref 44), (1, .int x), (2, .int y)], [.int (S.1 44 2), .int y], S)) rfl ?_
      refine x_top (v' := nI sz) g2 ?_
      refine x_icmp_gt 30 rfl rfl (fun h13 => ?_) (fun h13 => ?_)
      · refine run_ok 1 (c' := (31, [(0, .ref 44), (1, .int x), (2, .int y)], [.int (nI 0)], S)) rfl ?_
        exact x_ret (r := some (.int (nI 0))) rfl rfl (Or.inl rfl) ⟨congrArg (fun z => some (Value.int z)) (b2_f (fun z => by first | exact absurd h23 (Int32.not_lt.mpr z.2.2.2) | exact absurd h13 (Int32.not_lt.mpr z.2.2.1) | exact absurd h5 (Int32.not_lt.mpr z.2.1) | exact absurd h1 (Int32.not_lt.mpr z.1))).symm, rfl⟩ rfl
      · refine run_ok 3 (c' := (21, [(0, .ref 44), (1, .int x), (2, .int y)], [.int (S.1 44 2), .int x], S)) rfl ?_
        refine x_top (v' := nI sz) g2 ?_
        refine run_ok 2 (c' := (23, [(0, .ref 44), (1, .int x), (2, .int y)], [.int ((nI sz) - y), .int x], S)) rfl ?_
        refine x_icmp_gt 30 rfl rfl (fun h23 => ?_) (fun h23 => ?_)
        · refine run_ok 1 (c' := (31, [(0, .ref 44), (1, .int x), (2, .int y)], [.int (nI 0)], S)) rfl ?_
          exact x_ret (r := some (.int (nI 0))) rfl rfl (Or.inl rfl) ⟨congrArg (fun z => some (Value.int z)) (b2_f (fun z => by first | exact absurd h23 (Int32.not_lt.mpr z.2.2.2) | exact absurd h13 (Int32.not_lt.mpr z.2.2.1) | exact absurd h5 (Int32.not_lt.mpr z.2.1) | exact absurd h1 (Int32.not_lt.mpr z.1))).symm, rfl⟩ rfl
        · refine run_ok 2 (c' := (31, [(0, .ref 44), (1, .int x), (2, .int y)], [.int (nI 1)], S)) rfl ?_
          exact x_ret (r := some (.int (nI 1))) rfl rfl (Or.inr rfl) ⟨congrArg (fun z => some (Value.int z)) (b2_t ⟨Int32.not_lt.mp h1, Int32.not_lt.mp h5, Int32.not_lt.mp h13, Int32.not_lt.mp h23⟩).symm, rfl⟩ rfl

set_option maxHeartbeats 2000000 in
theorem c_set3 (S : ST) (lo fm sz : Nat) (hH : HR 44 lo fm sz S) (i : Nat) (v : Int32) (hi : i < 60) : EX me_H_set 0 [.ref 44, .int (nI i), .int v] S (fun r u => r = none ∧ u = pt S 45 i (cvt fm v)) := by
  refine EX.of mok_H_set (Nat.le_of_ble_eq_true rfl) ?_
  obtain ⟨g3, g1, g2, hl1, hf2, hs60⟩ := id hH
  refine run_ok 5 (c' := (9, [(0, .ref 44), (1, .int (nI i)), (2, .int v)], [.int (S.1 44 1), .int (nI i), .ref 45], S)) rfl ?_
  refine x_top (v' := nI fm) g1 ?_
  refine x_ifN_ne 17 rfl rfl (by omega) (fun h9 => ?_) (fun h9 => ?_)
  · refine run_ok 2 (c' := (21, [(0, .ref 44), (1, .int (nI i)), (2, .int v)], [.int (S.1 44 1), .int (nI i), .ref 45], S)) rfl ?_
    refine x_top (v' := nI fm) g1 ?_
    refine run_ok 1 (c' := (22, [(0, .ref 44), (1, .int (nI i)), (2, .int v)], [.int (nI 1), .int (nI fm), .int (nI i), .ref 45], S)) rfl ?_
    refine x_icmpN_ne 30 rfl rfl (by omega) (by omega) (fun h22 => ?_) (fun h22 => ?_)
    · refine run_ok 1 (c' := (31, [(0, .ref 44), (1, .int (nI i)), (2, .int v)], [.int v, .int (nI i), .ref 45], S)) rfl ?_
      refine x_isN rfl rfl (by decide) (by omega) ?_
      exact x_ret (r := none) rfl rfl trivial ⟨rfl, congrArg (fun z => pt S 45 i z) (show cvt fm v = _ from (if_neg h9).trans (if_neg h22)).symm⟩ rfl
    · refine run_ok 3 (c' := (31, [(0, .ref 44), (1, .int (nI i)), (2, .int v)], [.int v.toInt16.toInt32, .int (nI i), .ref 45], S)) rfl ?_
      refine x_isN rfl rfl (by decide) (by omega) ?_
      exact x_ret (r := none) rfl rfl trivial ⟨rfl, congrArg (fun z => pt S 45 i z) (show cvt fm v = _ from (if_neg h9).trans (if_pos h22)).symm⟩ rfl
  · refine run_ok 3 (c' := (31, [(0, .ref 44), (1, .int (nI i)), (2, .int v)], [.int v.toInt8.toInt32, .int (nI i), .ref 45], S)) rfl ?_
    refine x_isN rfl rfl (by decide) (by omega) ?_
    exact x_ret (r := none) rfl rfl trivial ⟨rfl, congrArg (fun z => pt S 45 i z) (show cvt fm v = _ from if_pos h9).symm⟩ rfl

set_option maxHeartbeats 2000000 in
theorem c_sheet_bad (S : ST) (x y z : Int32) (hbad : ¬ ((0 ≤ x ∧ x < nI 4) ∧ (0 ≤ y ∧ y < nI 3) ∧ z ≤ nI 60)) : EX me_N_sheet 2 [.ref 0, .int x, .int y, .int z] S (fun r u => r = some (.int ((-2))) ∧ u = S) := by
  refine EX.of mok_N_sheet (Nat.le_of_ble_eq_true rfl) ?_
  refine run_ok 2 (c' := (2, [(0, .ref 0), (1, .int x), (2, .int y), (3, .int z)], [.int (nI 4), .int x], S)) rfl ?_
  refine x_callS [.int x, .int (nI 4)] rfl cs_N_isBelow.1 lk_6_73 cs_N_isBelow.2.1 rfl rfl (Nat.le_of_ble_eq_true rfl) (by decide) cs_N_isBelow.2.2 (c_isBelow S (x) (nI 4)) ?_
  rintro r u ⟨hr, hu⟩
  rw [hr, hu]
  clear hr hu r u
  refine x_ifB_eq 22 rfl rfl (fun h5 => ?_) (fun h5 => ?_)
  · refine run_ok 1 (c' := (24, [(0, .ref 0), (1, .int x), (2, .int y), (3, .int z)], [.int (-2)], S)) rfl ?_
    exact x_ret (r := some (.int (-2))) rfl rfl trivial ⟨rfl, rfl⟩ rfl
  · refine run_ok 2 (c' := (10, [(0, .ref 0), (1, .int x), (2, .int y), (3, .int z)], [.int (nI 3), .int y], S)) rfl ?_
    refine x_callS [.int y, .int (nI 3)] rfl cs_N_isBelow.1 lk_6_73 cs_N_isBelow.2.1 rfl rfl (Nat.le_of_ble_eq_true rfl) (by decide) cs_N_isBelow.2.2 (c_isBelow S (y) (nI 3)) ?_
    rintro r u ⟨hr, hu⟩
    rw [hr, hu]
    clear hr hu r u
    refine x_ifB_eq 22 rfl rfl (fun h13 => ?_) (fun h13 => ?_)
    · refine run_ok 1 (c' := (24, [(0, .ref 0), (1, .int x), (2, .int y), (3, .int z)], [.int (-2)], S)) rfl ?_
      exact x_ret (r := some (.int (-2))) rfl rfl trivial ⟨rfl, rfl⟩ rfl
    · refine run_ok 2 (c' := (19, [(0, .ref 0), (1, .int x), (2, .int y), (3, .int z)], [.int (nI 60), .int z], S)) rfl ?_
      refine x_icmp_le 25 rfl rfl (fun h19 => ?_) (fun h19 => ?_)
      · exact absurd ⟨h5, h13, h19⟩ hbad
      · refine run_ok 1 (c' := (24, [(0, .ref 0), (1, .int x), (2, .int y), (3, .int z)], [.int (-2)], S)) rfl ?_
        exact x_ret (r := some (.int (-2))) rfl rfl trivial ⟨rfl, rfl⟩ rfl

set_option maxHeartbeats 2000000 in
theorem c_lose_bad (S : ST) (x : Int32) (hbad : ¬ (0 ≤ x ∧ x < nI 4)) : EX me_N_lose 2 [.ref 0, .int x] S (fun r u => r = some (.int ((-2))) ∧ u = S) := by
  refine EX.of mok_N_lose (Nat.le_of_ble_eq_true rfl) ?_
  refine run_ok 2 (c' := (2, [(0, .ref 0), (1, .int x)], [.int (nI 4), .int x], S)) rfl ?_
  refine x_callS [.int x, .int (nI 4)] rfl cs_N_isBelow.1 lk_6_73 cs_N_isBelow.2.1 rfl rfl (Nat.le_of_ble_eq_true rfl) (by decide) cs_N_isBelow.2.2 (c_isBelow S (x) (nI 4)) ?_
  rintro r u ⟨hr, hu⟩
  rw [hr, hu]
  clear hr hu r u
  refine x_ifB_ne 11 rfl rfl (fun h5 => ?_) (fun h5 => ?_)
  · exact absurd h5 hbad
  · refine run_ok 1 (c' := (10, [(0, .ref 0), (1, .int x)], [.int (-2)], S)) rfl ?_
    exact x_ret (r := some (.int (-2))) rfl rfl trivial ⟨rfl, rfl⟩ rfl

set_option maxHeartbeats 2000000 in
theorem c_put_bad (S : ST) (x y z v : Int32) (hbad : ¬ ((0 ≤ x ∧ x < nI 4) ∧ (0 ≤ y ∧ y < nI 3))) : EX me_N_put 2 [.ref 0, .int x, .int y, .int z, .int v] S (fun r u => r = some (.int ((-2))) ∧ u = S) := by
  refine EX.of mok_N_put (Nat.le_of_ble_eq_true rfl) ?_
  refine run_ok 2 (c' := (2, [(0, .ref 0), (1, .int x), (2, .int y), (3, .int z), (4, .int v)], [.int (nI 4), .int x], S)) rfl ?_
  refine x_callS [.int x, .int (nI 4)] rfl cs_N_isBelow.1 lk_6_73 cs_N_isBelow.2.1 rfl rfl (Nat.le_of_ble_eq_true rfl) (by decide) cs_N_isBelow.2.2 (c_isBelow S (x) (nI 4)) ?_
  rintro r u ⟨hr, hu⟩
  rw [hr, hu]
  clear hr hu r u
  refine x_ifB_eq 16 rfl rfl (fun h5 => ?_) (fun h5 => ?_)
  · refine run_ok 1 (c' := (18, [(0, .ref 0), (1, .int x), (2, .int y), (3, .int z), (4, .int v)], [.int (-2)], S)) rfl ?_
    exact x_ret (r := some (.int (-2))) rfl rfl trivial ⟨rfl, rfl⟩ rfl
  · refine run_ok 2 (c' := (10, [(0, .ref 0), (1, .int x), (2, .int y), (3, .int z), (4, .int v)], [.int (nI 3), .int y], S)) rfl ?_
    refine x_callS [.int y, .int (nI 3)] rfl cs_N_isBelow.1 lk_6_73 cs_N_isBelow.2.1 rfl rfl (Nat.le_of_ble_eq_true rfl) (by decide) cs_N_isBelow.2.2 (c_isBelow S (y) (nI 3)) ?_
    rintro r u ⟨hr, hu⟩
    rw [hr, hu]
    clear hr hu r u
    refine x_ifB_ne 19 rfl rfl (fun h13 => ?_) (fun h13 => ?_)
    · exact absurd ⟨h5, h13⟩ hbad
    · refine run_ok 1 (c' := (18, [(0, .ref 0), (1, .int x), (2, .int y), (3, .int z), (4, .int v)], [.int (-2)], S)) rfl ?_
      exact x_ret (r := some (.int (-2))) rfl rfl trivial ⟨rfl, rfl⟩ rfl

set_option maxHeartbeats 2000000 in
theorem c_get_bad (S : ST) (x y z : Int32) (hbad : ¬ ((0 ≤ x ∧ x < nI 4) ∧ (0 ≤ y ∧ y < nI 3))) : EX me_N_get 2 [.ref 0, .int x, .int y, .int z] S (fun r u => r = some (.int (-2147483648)) ∧ u = S) := by
  refine EX.of mok_N_get (Nat.le_of_ble_eq_true rfl) ?_
  refine run_ok 2 (c' := (2, [(0, .ref 0), (1, .int x), (2, .int y), (3, .int z)], [.int (nI 4), .int x], S)) rfl ?_
  refine x_callS [.int x, .int (nI 4)] rfl cs_N_isBelow.1 lk_6_73 cs_N_isBelow.2.1 rfl rfl (Nat.le_of_ble_eq_true rfl) (by decide) cs_N_isBelow.2.2 (c_isBelow S (x) (nI 4)) ?_
  rintro r u ⟨hr, hu⟩
  rw [hr, hu]
  clear hr hu r u
  refine x_ifB_eq 16 rfl rfl (fun h5 => ?_) (fun h5 => ?_)
  · refine run_ok 1 (c' := (19, [(0, .ref 0), (1, .int x), (2, .int y), (3, .int z)], [.int (-2147483648)], S)) rfl ?_
    exact x_ret (r := some (.int (-2147483648))) rfl rfl trivial ⟨rfl, rfl⟩ rfl
  · refine run_ok 2 (c' := (10, [(0, .ref 0), (1, .int x), (2, .int y), (3, .int z)], [.int (nI 3), .int y], S)) rfl ?_
    refine x_callS [.int y, .int (nI 3)] rfl cs_N_isBelow.1 lk_6_73 cs_N_isBelow.2.1 rfl rfl (Nat.le_of_ble_eq_true rfl) (by decide) cs_N_isBelow.2.2 (c_isBelow S (y) (nI 3)) ?_
    rintro r u ⟨hr, hu⟩
    rw [hr, hu]
    clear hr hu r u
    refine x_ifB_ne 20 rfl rfl (fun h13 => ?_) (fun h13 => ?_)
    · exact absurd ⟨h5, h13⟩ hbad
    · refine run_ok 1 (c' := (19, [(0, .ref 0), (1, .int x), (2, .int y), (3, .int z)], [.int (-2147483648)], S)) rfl ?_
      exact x_ret (r := some (.int (-2147483648))) rfl rfl trivial ⟨rfl, rfl⟩ rfl

set_option maxHeartbeats 2000000 in
theorem c_sheet_ok0 (S : ST) (f n : Nat) (hf3 : f < 3) (hn60 : n ≤ 60) : EX me_N_sheet 2 [.ref 0, .int (nI 0), .int (nI f), .int (nI n)] S (fun r u => r = some (.int (nI n)) ∧ (∀ j, j < 60 → u.1 39 j = nI 0) ∧ u.1 38 1 = nI f ∧ u.1 38 2 = nI n ∧ u.1 38 3 = nI 0 ∧ fr [38, 39] S u ∧ u.2 = S.2) := by
  refine EX.of mok_N_sheet (Nat.le_of_ble_eq_true rfl) ?_
  refine run_ok 2 (c' := (2, [(0, .ref 0), (1, .int (nI 0)), (2, .int (nI f)), (3, .int (nI n))], [.int (nI 4), .int (nI 0)], S)) rfl ?_
  refine x_callS [.int (nI 0), .int (nI 4)] rfl cs_N_isBelow.1 lk_6_73 cs_N_isBelow.2.1 rfl rfl (Nat.le_of_ble_eq_true rfl) (by decide) cs_N_isBelow.2.2 (c_isBelow S (nI 0) (nI 4)) ?_
  rintro r u ⟨hr, hu⟩
  rw [hr, hu]
  clear hr hu r u
  refine x_ifB_eq 22 rfl rfl (fun hn => absurd hn (fun z => z (inr_t (by decide) (by decide)))) (fun h5 => ?_)
  refine run_ok 2 (c' := (10, [(0, .ref 0), (1, .int (nI 0)), (2, .int (nI f)), (3, .int (nI n))], [.int (nI 3), .int (nI f)], S)) rfl ?_
  refine x_callS [.int (nI f), .int (nI 3)] rfl cs_N_isBelow.1 lk_6_73 cs_N_isBelow.2.1 rfl rfl (Nat.le_of_ble_eq_true rfl) (by decide) cs_N_isBelow.2.2 (c_isBelow S (nI f) (nI 3)) ?_
  rintro r u ⟨hr, hu⟩
  rw [hr, hu]
  clear hr hu r u
  refine x_ifB_eq 22 rfl rfl (fun hn => absurd hn (fun z => z (inr_t hf3 (by decide)))) (fun h13 => ?_)
  refine run_ok 2 (c' := (19, [(0, .ref 0), (1, .int (nI 0)), (2, .int (nI f)), (3, .int (nI n))], [.int (nI 60), .int (nI n)], S)) rfl ?_
  refine x_icmpN_le 25 rfl rfl (by omega) (by omega) (fun h19 => ?_) (fun hn => absurd hn60 hn)
  refine run_ok 1 (c' := (26, [(0, .ref 0), (1, .int (nI 0)), (2, .int (nI f)), (3, .int (nI n))], [.int (nI n)], S)) rfl ?_
  refine x_ifN_ge 35 rfl rfl (by omega) (fun h26 => ?_) (fun hn => absurd (Nat.zero_le _) hn)
  refine run_ok 3 (c' := (40, [(0, .ref 0), (1, .int (nI 0)), (2, .int (nI f)), (3, .int (nI n))], [.int (nI 0), .ref 37], S)) rfl ?_
  refine x_aald (t := 38) rfl rfl (vp_in_nI (by decide) (by decide)) (by decide) ?_
  refine run_ok 2 (c' := (43, [(0, .ref 0), (1, .int (nI 0)), (2, .int (nI f)), (3, .int (nI n))], [.int (nI n), .int (nI f), .ref 38], S)) rfl ?_
  refine x_callV [.int (nI f), .int (nI n)] rfl cv_H_renew.1 lk_6_252 cv_H_renew.2.1 cv_H_renew.2.2.1 rfl cv_H_renew.2.2.2.1 rfl rfl (Nat.le_of_ble_eq_true rfl) (by decide) cv_H_renew.2.2.2.2 (c_renew0 S f n) ?_
  rintro r u ⟨hr, hz⟩
  rw [hr]
  clear hr r
  refine run_ok 1 (c' := (47, [(0, .ref 0), (1, .int (nI 0)), (2, .int (nI f)), (3, .int (nI n))], [.int (nI n)], u)) rfl ?_
  exact x_ret (r := some (.int (nI n))) rfl rfl trivial ⟨rfl, hz⟩ rfl

set_option maxHeartbeats 2000000 in
theorem c_sheet_neg0 (S : ST) (f : Nat) (z : Int32) (hf3 : f < 3) (hneg : z < 0) : EX me_N_sheet 2 [.ref 0, .int (nI 0), .int (nI f), .int z] S (fun r u => r = some (.int ((-10) - nI 5)) ∧ u = pt S 0 10 (nI 5)) := by
  refine EX.of mok_N_sheet (Nat.le_of_ble_eq_true rfl) ?_
  have hz : z ≤ nI 60 := Int32.le_of_lt (Int32.lt_trans hneg (by decide))
  refine run_ok 2 (c' := (2, [(0, .ref 0), (1, .int (nI 0)), (2, .int (nI f)), (3, .int z)], [.int (nI 4), .int (nI 0)], S)) rfl ?_
  refine x_callS [.int (nI 0), .int (nI 4)] rfl cs_N_isBelow.1 lk_6_73 cs_N_isBelow.2.1 rfl rfl (Nat.le_of_ble_eq_true rfl) (by decide) cs_N_isBelow.2.2 (c_isBelow S (nI 0) (nI 4)) ?_
  rintro r u ⟨hr, hu⟩
  rw [hr, hu]
  clear hr hu r u
  refine x_ifB_eq 22 rfl rfl (fun hn => absurd hn (fun z => z (inr_t (by decide) (by decide)))) (fun h5 => ?_)
  refine run_ok 2 (c' := (10, [(0, .ref 0), (1, .int (nI 0)), (2, .int (nI f)), (3, .int z)], [.int (nI 3), .int (nI f)], S)) rfl ?_
  refine x_callS [.int (nI f), .int (nI 3)] rfl cs_N_isBelow.1 lk_6_73 cs_N_isBelow.2.1 rfl rfl (Nat.le_of_ble_eq_true rfl) (by decide) cs_N_isBelow.2.2 (c_isBelow S (nI f) (nI 3)) ?_
  rintro r u ⟨hr, hu⟩
  rw [hr, hu]
  clear hr hu r u
  refine x_ifB_eq 22 rfl rfl (fun hn => absurd hn (fun z => z (inr_t hf3 (by decide)))) (fun h13 => ?_)
  refine run_ok 2 (c' := (19, [(0, .ref 0), (1, .int (nI 0)), (2, .int (nI f)), (3, .int z)], [.int (nI 60), .int z], S)) rfl ?_
  refine x_icmp_le 25 rfl rfl (fun h19 => ?_) (fun hn => absurd hz hn)
  refine run_ok 1 (c' := (26, [(0, .ref 0), (1, .int (nI 0)), (2, .int (nI f)), (3, .int z)], [.int z], S)) rfl ?_
  refine x_if_ge 35 rfl rfl (fun hn => absurd hn (fun z => absurd hneg (Int32.not_lt.mpr z))) (fun h26 => ?_)
  refine run_ok 2 (c' := (31, [(0, .ref 0), (1, .int (nI 0)), (2, .int (nI f)), (3, .int z)], [.int (nI 5), .ref 0], S)) rfl ?_
  refine x_callV [.int (nI 5)] rfl cv_N_find.1 lk_6_134 cv_N_find.2.1 cv_N_find.2.2.1 rfl cv_N_find.2.2.2.1 rfl rfl (Nat.le_of_ble_eq_true rfl) (by decide) cv_N_find.2.2.2.2 (c_find S (5)) ?_
  rintro r x ⟨hr, hu⟩
  rw [hr, hu]
  clear hr hu r x
  exact x_ret (r := some (.int ((-10) - nI 5))) rfl rfl trivial ⟨rfl, rfl⟩ rfl

set_option maxHeartbeats 2000000 in
theorem c_lose_null0 (S : ST) (lo fm sz : Nat) (hH : HR 38 lo fm sz S) (hlo : lo = 1) : EX me_N_lose 2 [.ref 0, .int (nI 0)] S (fun r u => r = some (.int ((-10) - nI 1)) ∧ u = pt S 0 10 (nI 1)) := by
  refine EX.of mok_N_lose (Nat.le_of_ble_eq_true rfl) ?_
  obtain ⟨g3, g1, g2, hl1, hf2, hs60⟩ := id hH
  refine run_ok 2 (c' := (2, [(0, .ref 0), (1, .int (nI 0))], [.int (nI 4), .int (nI 0)], S)) rfl ?_
  refine x_callS [.int (nI 0), .int (nI 4)] rfl cs_N_isBelow.1 lk_6_73 cs_N_isBelow.2.1 rfl rfl (Nat.le_of_ble_eq_true rfl) (by decide) cs_N_isBelow.2.2 (c_isBelow S (nI 0) (nI 4)) ?_
  rintro r u ⟨hr, hu⟩
  rw [hr, hu]
  clear hr hu r u
  refine x_ifB_ne 11 rfl rfl (fun h5 => ?_) (fun hn => absurd (inr_t (by decide) (by decide)) hn)
  refine run_ok 3 (c' := (16, [(0, .ref 0), (1, .int (nI 0))], [.int (nI 0), .ref 37], S)) rfl ?_
  refine x_aald (t := 38) rfl rfl (vp_in_nI (by decide) (by decide)) (by decide) ?_
  refine run_ok 3 (c' := (22, [(0, .ref 0), (1, .int (nI 0)), (2, .ref 38)], [.int (S.1 38 3)], S)) rfl ?_
  refine x_top (v' := nI lo) g3 ?_
  refine x_ifN_eq 31 rfl rfl (by omega) (fun hn => absurd hn (by omega)) (fun h22 => ?_)
  refine run_ok 2 (c' := (27, [(0, .ref 0), (1, .int (nI 0)), (2, .ref 38)], [.int (nI 1), .ref 0], S)) rfl ?_
  refine x_callV [.int (nI 1)] rfl cv_N_find.1 lk_6_134 cv_N_find.2.1 cv_N_find.2.2.1 rfl cv_N_find.2.2.2.1 rfl rfl (Nat.le_of_ble_eq_true rfl) (by decide) cv_N_find.2.2.2.2 (c_find S (1)) ?_
  rintro r x ⟨hr, hu⟩
  rw [hr, hu]
  clear hr hu r x
  exact x_ret (r := some (.int ((-10) - nI 1))) rfl rfl trivial ⟨rfl, rfl⟩ rfl

set_option maxHeartbeats 2000000 in
theorem c_lose_ok0 (S : ST) (lo fm sz : Nat) (hH : HR 38 lo fm sz S) (hlo : lo = 0) : EX me_N_lose 2 [.ref 0, .int (nI 0)] S (fun r u => r = some (.int (nI sz)) ∧ u = pt S 38 3 (nI 1)) := by
  refine EX.of mok_N_lose (Nat.le_of_ble_eq_true rfl) ?_
  obtain ⟨g3, g1, g2, hl1, hf2, hs60⟩ := id hH
  refine run_ok 2 (c' := (2, [(0, .ref 0), (1, .int (nI 0))], [.int (nI 4), .int (nI 0)], S)) rfl ?_
  refine x_callS [.int (nI 0), .int (nI 4)] rfl cs_N_isBelow.1 lk_6_73 cs_N_isBelow.2.1 rfl rfl (Nat.le_of_ble_eq_true rfl) (by decide) cs_N_isBelow.2.2 (c_isBelow S (nI 0) (nI 4)) ?_
  rintro r u ⟨hr, hu⟩
  rw [hr, hu]
  clear hr hu r u
  refine x_ifB_ne 11 rfl rfl (fun h5 => ?_) (fun hn => absurd (inr_t (by decide) (by decide)) hn)
  refine run_ok 3 (c' := (16, [(0, .ref 0), (1, .int (nI 0))], [.int (nI 0), .ref 37], S)) rfl ?_
  refine x_aald (t := 38) rfl rfl (vp_in_nI (by decide) (by decide)) (by decide) ?_
  refine run_ok 3 (c' := (22, [(0, .ref 0), (1, .int (nI 0)), (2, .ref 38)], [.int (S.1 38 3)], S)) rfl ?_
  refine x_top (v' := nI lo) g3 ?_
  refine x_ifN_eq 31 rfl rfl (by omega) (fun h22 => ?_) (fun hn => absurd hlo hn)
  refine run_ok 5 (c' := (40, [(0, .ref 0), (1, .int (nI 0)), (2, .ref 38)], [.int (S.1 38 2)], (pt S 38 3 (nI 1)))) rfl ?_
  refine x_top (v' := nI sz) g2 ?_
  exact x_ret (r := some (.int (nI sz))) rfl rfl trivial ⟨rfl, rfl⟩ rfl

set_option maxHeartbeats 2000000 in
theorem c_put_f0 (S : ST) (lo fm sz : Nat) (hH : HR 38 lo fm sz S) (f : Nat) (x v : Int32) (hf3 : f < 3) (hfn : ¬ fnd lo fm sz f x = 0) : EX me_N_put 2 [.ref 0, .int (nI 0), .int (nI f), .int x, .int v] S (fun r u => r = some (.int ((-10) - nI (fnd lo fm sz f x))) ∧ u = pt S 0 10 (nI (fnd lo fm sz f x))) := by
  refine EX.of mok_N_put (Nat.le_of_ble_eq_true rfl) ?_
  obtain ⟨g3, g1, g2, hl1, hf2, hs60⟩ := id hH
  have q1 := fnd_le lo fm sz f x
  refine run_ok 2 (c' := (2, [(0, .ref 0), (1, .int (nI 0)), (2, .int (nI f)), (3, .int x), (4, .int v)], [.int (nI 4), .int (nI 0)], S)) rfl ?_
  refine x_callS [.int (nI 0), .int (nI 4)] rfl cs_N_isBelow.1 lk_6_73 cs_N_isBelow.2.1 rfl rfl (Nat.le_of_ble_eq_true rfl) (by decide) cs_N_isBelow.2.2 (c_isBelow S (nI 0) (nI 4)) ?_
  rintro r u ⟨hr, hu⟩
  rw [hr, hu]
  clear hr hu r u
  refine x_ifB_eq 16 rfl rfl (fun hn => absurd hn (fun z => z (inr_t (by decide) (by decide)))) (fun h5 => ?_)
  refine run_ok 2 (c' := (10, [(0, .ref 0), (1, .int (nI 0)), (2, .int (nI f)), (3, .int x), (4, .int v)], [.int (nI 3), .int (nI f)], S)) rfl ?_
  refine x_callS [.int (nI f), .int (nI 3)] rfl cs_N_isBelow.1 lk_6_73 cs_N_isBelow.2.1 rfl rfl (Nat.le_of_ble_eq_true rfl) (by decide) cs_N_isBelow.2.2 (c_isBelow S (nI f) (nI 3)) ?_
  rintro r u ⟨hr, hu⟩
  rw [hr, hu]
  clear hr hu r u
  refine x_ifB_ne 19 rfl rfl (fun h13 => ?_) (fun hn => absurd (inr_t hf3 (by decide)) hn)
  refine run_ok 3 (c' := (24, [(0, .ref 0), (1, .int (nI 0)), (2, .int (nI f)), (3, .int x), (4, .int v)], [.int (nI 0), .ref 37], S)) rfl ?_
  refine x_aald (t := 38) rfl rfl (vp_in_nI (by decide) (by decide)) (by decide) ?_
  refine run_ok 2 (c' := (27, [(0, .ref 0), (1, .int (nI 0)), (2, .int (nI f)), (3, .int x), (4, .int v)], [.int x, .int (nI f), .ref 38], S)) rfl ?_
  refine x_callV [.int (nI f), .int x] rfl cv_H_findingAt.1 lk_6_255 cv_H_findingAt.2.1 cv_H_findingAt.2.2.1 rfl cv_H_findingAt.2.2.2.1 rfl rfl (Nat.le_of_ble_eq_true rfl) (by decide) cv_H_findingAt.2.2.2.2 (c_findingAt0 S lo fm sz hH f x hf3) ?_
  rintro r x ⟨hr, hu⟩
  rw [hr, hu]
  clear hr hu r x
  refine run_ok 2 (c' := (34, [(0, .ref 0), (1, .int (nI 0)), (2, .int (nI f)), (3, .int x), (4, .int v), (5, .int (nI (fnd lo fm sz f x)))], [.int (nI (fnd lo fm sz f x))], S)) rfl ?_
  refine x_ifN_eq 44 rfl rfl (by omega) (fun hn => absurd hn hfn) (fun h34 => ?_)
  refine run_ok 2 (c' := (40, [(0, .ref 0), (1, .int (nI 0)), (2, .int (nI f)), (3, .int x), (4, .int v), (5, .int (nI (fnd lo fm sz f x)))], [.int (nI (fnd lo fm sz f x)), .ref 0], S)) rfl ?_
  refine x_callV [.int (nI (fnd lo fm sz f x))] rfl cv_N_find.1 lk_6_134 cv_N_find.2.1 cv_N_find.2.2.1 rfl cv_N_find.2.2.2.1 rfl rfl (Nat.le_of_ble_eq_true rfl) (by decide) cv_N_find.2.2.2.2 (c_find S (fnd lo fm sz f x)) ?_
  rintro r x ⟨hr, hu⟩
  rw [hr, hu]
  clear hr hu r x
  exact x_ret (r := some (.int ((-10) - nI (fnd lo fm sz f x)))) rfl rfl trivial ⟨rfl, rfl⟩ rfl

set_option maxHeartbeats 2000000 in
theorem c_put_ok0 (S : ST) (lo fm sz : Nat) (hH : HR 38 lo fm sz S) (f i : Nat) (v : Int32) (hf3 : f < 3) (hi : i < 60) (hfn : fnd lo fm sz f (nI i) = 0) : EX me_N_put 2 [.ref 0, .int (nI 0), .int (nI f), .int (nI i), .int v] S (fun r u => r = some (.int 1) ∧ u = pt S 39 i (cvt fm v)) := by
  refine EX.of mok_N_put (Nat.le_of_ble_eq_true rfl) ?_
  obtain ⟨g3, g1, g2, hl1, hf2, hs60⟩ := id hH
  have q1 := fnd_le lo fm sz f (nI i)
  refine run_ok 2 (c' := (2, [(0, .ref 0), (1, .int (nI 0)), (2, .int (nI f)), (3, .int (nI i)), (4, .int v)], [.int (nI 4), .int (nI 0)], S)) rfl ?_
  refine x_callS [.int (nI 0), .int (nI 4)] rfl cs_N_isBelow.1 lk_6_73 cs_N_isBelow.2.1 rfl rfl (Nat.le_of_ble_eq_true rfl) (by decide) cs_N_isBelow.2.2 (c_isBelow S (nI 0) (nI 4)) ?_
  rintro r u ⟨hr, hu⟩
  rw [hr, hu]
  clear hr hu r u
  refine x_ifB_eq 16 rfl rfl (fun hn => absurd hn (fun z => z (inr_t (by decide) (by decide)))) (fun h5 => ?_)
  refine run_ok 2 (c' := (10, [(0, .ref 0), (1, .int (nI 0)), (2, .int (nI f)), (3, .int (nI i)), (4, .int v)], [.int (nI 3), .int (nI f)], S)) rfl ?_
  refine x_callS [.int (nI f), .int (nI 3)] rfl cs_N_isBelow.1 lk_6_73 cs_N_isBelow.2.1 rfl rfl (Nat.le_of_ble_eq_true rfl) (by decide) cs_N_isBelow.2.2 (c_isBelow S (nI f) (nI 3)) ?_
  rintro r u ⟨hr, hu⟩
  rw [hr, hu]
  clear hr hu r u
  refine x_ifB_ne 19 rfl rfl (fun h13 => ?_) (fun hn => absurd (inr_t hf3 (by decide)) hn)
  refine run_ok 3 (c' := (24, [(0, .ref 0), (1, .int (nI 0)), (2, .int (nI f)), (3, .int (nI i)), (4, .int v)], [.int (nI 0), .ref 37], S)) rfl ?_
  refine x_aald (t := 38) rfl rfl (vp_in_nI (by decide) (by decide)) (by decide) ?_
  refine run_ok 2 (c' := (27, [(0, .ref 0), (1, .int (nI 0)), (2, .int (nI f)), (3, .int (nI i)), (4, .int v)], [.int (nI i), .int (nI f), .ref 38], S)) rfl ?_
  refine x_callV [.int (nI f), .int (nI i)] rfl cv_H_findingAt.1 lk_6_255 cv_H_findingAt.2.1 cv_H_findingAt.2.2.1 rfl cv_H_findingAt.2.2.2.1 rfl rfl (Nat.le_of_ble_eq_true rfl) (by decide) cv_H_findingAt.2.2.2.2 (c_findingAt0 S lo fm sz hH f (nI i) hf3) ?_
  rintro r x ⟨hr, hu⟩
  rw [hr, hu]
  clear hr hu r x
  refine run_ok 2 (c' := (34, [(0, .ref 0), (1, .int (nI 0)), (2, .int (nI f)), (3, .int (nI i)), (4, .int v), (5, .int (nI (fnd lo fm sz f (nI i))))], [.int (nI (fnd lo fm sz f (nI i)))], S)) rfl ?_
  refine x_ifN_eq 44 rfl rfl (by omega) (fun h34 => ?_) (fun hn => absurd hfn hn)
  refine run_ok 3 (c' := (49, [(0, .ref 0), (1, .int (nI 0)), (2, .int (nI f)), (3, .int (nI i)), (4, .int v), (5, .int (nI (fnd lo fm sz f (nI i))))], [.int (nI 0), .ref 37], S)) rfl ?_
  refine x_aald (t := 38) rfl rfl (vp_in_nI (by decide) (by decide)) (by decide) ?_
  refine run_ok 2 (c' := (53, [(0, .ref 0), (1, .int (nI 0)), (2, .int (nI f)), (3, .int (nI i)), (4, .int v), (5, .int (nI (fnd lo fm sz f (nI i))))], [.int v, .int (nI i), .ref 38], S)) rfl ?_
  refine x_callV [.int (nI i), .int v] rfl cv_H_set.1 lk_6_258 cv_H_set.2.1 cv_H_set.2.2.1 rfl cv_H_set.2.2.2.1 rfl rfl (Nat.le_of_ble_eq_true rfl) (by decide) cv_H_set.2.2.2.2 (c_set0 S lo fm sz hH i v (by omega)) ?_
  rintro r x ⟨hr, hu⟩
  rw [hr, hu]
  clear hr hu r x
  refine run_ok 1 (c' := (57, [(0, .ref 0), (1, .int (nI 0)), (2, .int (nI f)), (3, .int (nI i)), (4, .int v), (5, .int (nI (fnd lo fm sz f (nI i))))], [.int (nI 1)], (pt S 39 i (cvt fm v)))) rfl ?_
  exact x_ret (r := some (.int (nI 1))) rfl rfl trivial ⟨rfl, rfl⟩ rfl

set_option maxHeartbeats 2000000 in
theorem c_get_f0 (S : ST) (lo fm sz : Nat) (hH : HR 38 lo fm sz S) (f : Nat) (x : Int32) (hf3 : f < 3) (hfn : ¬ fnd lo fm sz f x = 0) : EX me_N_get 2 [.ref 0, .int (nI 0), .int (nI f), .int x] S (fun r u => r = some (.int (-2147483648)) ∧ u = pt S 0 10 (nI (fnd lo fm sz f x))) := by
  refine EX.of mok_N_get (Nat.le_of_ble_eq_true rfl) ?_
  obtain ⟨g3, g1, g2, hl1, hf2, hs60⟩ := id hH
  have q1 := fnd_le lo fm sz f x
  refine run_ok 2 (c' := (2, [(0, .ref 0), (1, .int (nI 0)), (2, .int (nI f)), (3, .int x)], [.int (nI 4), .int (nI 0)], S)) rfl ?_
  refine x_callS [.int (nI 0), .int (nI 4)] rfl cs_N_isBelow.1 lk_6_73 cs_N_isBelow.2.1 rfl rfl (Nat.le_of_ble_eq_true rfl) (by decide) cs_N_isBelow.2.2 (c_isBelow S (nI 0) (nI 4)) ?_
  rintro r u ⟨hr, hu⟩
  rw [hr, hu]
  clear hr hu r u
  refine x_ifB_eq 16 rfl rfl (fun hn => absurd hn (fun z => z (inr_t (by decide) (by decide)))) (fun h5 => ?_)
  refine run_ok 2 (c' := (10, [(0, .ref 0), (1, .int (nI 0)), (2, .int (nI f)), (3, .int x)], [.int (nI 3), .int (nI f)], S)) rfl ?_
  refine x_callS [.int (nI f), .int (nI 3)] rfl cs_N_isBelow.1 lk_6_73 cs_N_isBelow.2.1 rfl rfl (Nat.le_of_ble_eq_true rfl) (by decide) cs_N_isBelow.2.2 (c_isBelow S (nI f) (nI 3)) ?_
  rintro r u ⟨hr, hu⟩
  rw [hr, hu]
  clear hr hu r u
  refine x_ifB_ne 20 rfl rfl (fun h13 => ?_) (fun hn => absurd (inr_t hf3 (by decide)) hn)
  refine run_ok 3 (c' := (25, [(0, .ref 0), (1, .int (nI 0)), (2, .int (nI f)), (3, .int x)], [.int (nI 0), .ref 37], S)) rfl ?_
  refine x_aald (t := 38) rfl rfl (vp_in_nI (by decide) (by decide)) (by decide) ?_
  refine run_ok 2 (c' := (28, [(0, .ref 0), (1, .int (nI 0)), (2, .int (nI f)), (3, .int x)], [.int x, .int (nI f), .ref 38], S)) rfl ?_
  refine x_callV [.int (nI f), .int x] rfl cv_H_findingAt.1 lk_6_255 cv_H_findingAt.2.1 cv_H_findingAt.2.2.1 rfl cv_H_findingAt.2.2.2.1 rfl rfl (Nat.le_of_ble_eq_true rfl) (by decide) cv_H_findingAt.2.2.2.2 (c_findingAt0 S lo fm sz hH f x hf3) ?_
  rintro r x ⟨hr, hu⟩
  rw [hr, hu]
  clear hr hu r x
  refine run_ok 2 (c' := (35, [(0, .ref 0), (1, .int (nI 0)), (2, .int (nI f)), (3, .int x), (4, .int (nI (fnd lo fm sz f x)))], [.int (nI (fnd lo fm sz f x))], S)) rfl ?_
  refine x_ifN_eq 48 rfl rfl (by omega) (fun hn => absurd hn hfn) (fun h35 => ?_)
  refine run_ok 4 (c' := (47, [(0, .ref 0), (1, .int (nI 0)), (2, .int (nI f)), (3, .int x), (4, .int (nI (fnd lo fm sz f x)))], [.int (-2147483648)], (pt S 0 10 (nI (fnd lo fm sz f x))))) rfl ?_
  exact x_ret (r := some (.int (-2147483648))) rfl rfl trivial ⟨rfl, rfl⟩ rfl

set_option maxHeartbeats 2000000 in
theorem c_get_ok0 (S : ST) (lo fm sz : Nat) (hH : HR 38 lo fm sz S) (f i : Nat) (hf3 : f < 3) (hi : i < 60) (hfn : fnd lo fm sz f (nI i) = 0) : EX me_N_get 2 [.ref 0, .int (nI 0), .int (nI f), .int (nI i)] S (fun r u => r = some (.int (S.1 39 i)) ∧ u = S) := by
  refine EX.of mok_N_get (Nat.le_of_ble_eq_true rfl) ?_
  obtain ⟨g3, g1, g2, hl1, hf2, hs60⟩ := id hH
  have q1 := fnd_le lo fm sz f (nI i)
  refine run_ok 2 (c' := (2, [(0, .ref 0), (1, .int (nI 0)), (2, .int (nI f)), (3, .int (nI i))], [.int (nI 4), .int (nI 0)], S)) rfl ?_
  refine x_callS [.int (nI 0), .int (nI 4)] rfl cs_N_isBelow.1 lk_6_73 cs_N_isBelow.2.1 rfl rfl (Nat.le_of_ble_eq_true rfl) (by decide) cs_N_isBelow.2.2 (c_isBelow S (nI 0) (nI 4)) ?_
  rintro r u ⟨hr, hu⟩
  rw [hr, hu]
  clear hr hu r u
  refine x_ifB_eq 16 rfl rfl (fun hn => absurd hn (fun z => z (inr_t (by decide) (by decide)))) (fun h5 => ?_)
  refine run_ok 2 (c' := (10, [(0, .ref 0), (1, .int (nI 0)), (2, .int (nI f)), (3, .int (nI i))], [.int (nI 3), .int (nI f)], S)) rfl ?_
  refine x_callS [.int (nI f), .int (nI 3)] rfl cs_N_isBelow.1 lk_6_73 cs_N_isBelow.2.1 rfl rfl (Nat.le_of_ble_eq_true rfl) (by decide) cs_N_isBelow.2.2 (c_isBelow S (nI f) (nI 3)) ?_
  rintro r u ⟨hr, hu⟩
  rw [hr, hu]
  clear hr hu r u
  refine x_ifB_ne 20 rfl rfl (fun h13 => ?_) (fun hn => absurd (inr_t hf3 (by decide)) hn)
  refine run_ok 3 (c' := (25, [(0, .ref 0), (1, .int (nI 0)), (2, .int (nI f)), (3, .int (nI i))], [.int (nI 0), .ref 37], S)) rfl ?_
  refine x_aald (t := 38) rfl rfl (vp_in_nI (by decide) (by decide)) (by decide) ?_
  refine run_ok 2 (c' := (28, [(0, .ref 0), (1, .int (nI 0)), (2, .int (nI f)), (3, .int (nI i))], [.int (nI i), .int (nI f), .ref 38], S)) rfl ?_
  refine x_callV [.int (nI f), .int (nI i)] rfl cv_H_findingAt.1 lk_6_255 cv_H_findingAt.2.1 cv_H_findingAt.2.2.1 rfl cv_H_findingAt.2.2.2.1 rfl rfl (Nat.le_of_ble_eq_true rfl) (by decide) cv_H_findingAt.2.2.2.2 (c_findingAt0 S lo fm sz hH f (nI i) hf3) ?_
  rintro r x ⟨hr, hu⟩
  rw [hr, hu]
  clear hr hu r x
  refine run_ok 2 (c' := (35, [(0, .ref 0), (1, .int (nI 0)), (2, .int (nI f)), (3, .int (nI i)), (4, .int (nI (fnd lo fm sz f (nI i))))], [.int (nI (fnd lo fm sz f (nI i)))], S)) rfl ?_
  refine x_ifN_eq 48 rfl rfl (by omega) (fun h35 => ?_) (fun hn => absurd hfn hn)
  refine run_ok 3 (c' := (53, [(0, .ref 0), (1, .int (nI 0)), (2, .int (nI f)), (3, .int (nI i)), (4, .int (nI (fnd lo fm sz f (nI i))))], [.int (nI 0), .ref 37], S)) rfl ?_
  refine x_aald (t := 38) rfl rfl (vp_in_nI (by decide) (by decide)) (by decide) ?_
  refine run_ok 2 (c' := (58, [(0, .ref 0), (1, .int (nI 0)), (2, .int (nI f)), (3, .int (nI i)), (4, .int (nI (fnd lo fm sz f (nI i))))], [.int (nI i), .ref 39], S)) rfl ?_
  refine x_iaN (S.1 39 i) rfl rfl (by decide) (by omega) rfl ?_
  exact x_ret (r := some (.int (S.1 39 i))) rfl rfl trivial ⟨rfl, rfl⟩ rfl

set_option maxHeartbeats 2000000 in
theorem c_sheet_ok1 (S : ST) (f n : Nat) (hf3 : f < 3) (hn60 : n ≤ 60) : EX me_N_sheet 2 [.ref 0, .int (nI 1), .int (nI f), .int (nI n)] S (fun r u => r = some (.int (nI n)) ∧ (∀ j, j < 60 → u.1 41 j = nI 0) ∧ u.1 40 1 = nI f ∧ u.1 40 2 = nI n ∧ u.1 40 3 = nI 0 ∧ fr [40, 41] S u ∧ u.2 = S.2) := by
  refine EX.of mok_N_sheet (Nat.le_of_ble_eq_true rfl) ?_
  refine run_ok 2 (c' := (2, [(0, .ref 0), (1, .int (nI 1)), (2, .int (nI f)), (3, .int (nI n))], [.int (nI 4), .int (nI 1)], S)) rfl ?_
  refine x_callS [.int (nI 1), .int (nI 4)] rfl cs_N_isBelow.1 lk_6_73 cs_N_isBelow.2.1 rfl rfl (Nat.le_of_ble_eq_true rfl) (by decide) cs_N_isBelow.2.2 (c_isBelow S (nI 1) (nI 4)) ?_
  rintro r u ⟨hr, hu⟩
  rw [hr, hu]
  clear hr hu r u
  refine x_ifB_eq 22 rfl rfl (fun hn => absurd hn (fun z => z (inr_t (by decide) (by decide)))) (fun h5 => ?_)
  refine run_ok 2 (c' := (10, [(0, .ref 0), (1, .int (nI 1)), (2, .int (nI f)), (3, .int (nI n))], [.int (nI 3), .int (nI f)], S)) rfl ?_
  refine x_callS [.int (nI f), .int (nI 3)] rfl cs_N_isBelow.1 lk_6_73 cs_N_isBelow.2.1 rfl rfl (Nat.le_of_ble_eq_true rfl) (by decide) cs_N_isBelow.2.2 (c_isBelow S (nI f) (nI 3)) ?_
  rintro r u ⟨hr, hu⟩
  rw [hr, hu]
  clear hr hu r u
  refine x_ifB_eq 22 rfl rfl (fun hn => absurd hn (fun z => z (inr_t hf3 (by decide)))) (fun h13 => ?_)
  refine run_ok 2 (c' := (19, [(0, .ref 0), (1, .int (nI 1)), (2, .int (nI f)), (3, .int (nI n))], [.int (nI 60), .int (nI n)], S)) rfl ?_
  refine x_icmpN_le 25 rfl rfl (by omega) (by omega) (fun h19 => ?_) (fun hn => absurd hn60 hn)
  refine run_ok 1 (c' := (26, [(0, .ref 0), (1, .int (nI 1)), (2, .int (nI f)), (3, .int (nI n))], [.int (nI n)], S)) rfl ?_
  refine x_ifN_ge 35 rfl rfl (by omega) (fun h26 => ?_) (fun hn => absurd (Nat.zero_le _) hn)
  refine run_ok 3 (c' := (40, [(0, .ref 0), (1, .int (nI 1)), (2, .int (nI f)), (3, .int (nI n))], [.int (nI 1), .ref 37], S)) rfl ?_
  refine x_aald (t := 40) rfl rfl (vp_in_nI (by decide) (by decide)) (by decide) ?_
  refine run_ok 2 (c' := (43, [(0, .ref 0), (1, .int (nI 1)), (2, .int (nI f)), (3, .int (nI n))], [.int (nI n), .int (nI f), .ref 40], S)) rfl ?_
  refine x_callV [.int (nI f), .int (nI n)] rfl cv_H_renew.1 lk_6_252 cv_H_renew.2.1 cv_H_renew.2.2.1 rfl cv_H_renew.2.2.2.1 rfl rfl (Nat.le_of_ble_eq_true rfl) (by decide) cv_H_renew.2.2.2.2 (c_renew1 S f n) ?_
  rintro r u ⟨hr, hz⟩
  rw [hr]
  clear hr r
  refine run_ok 1 (c' := (47, [(0, .ref 0), (1, .int (nI 1)), (2, .int (nI f)), (3, .int (nI n))], [.int (nI n)], u)) rfl ?_
  exact x_ret (r := some (.int (nI n))) rfl rfl trivial ⟨rfl, hz⟩ rfl

set_option maxHeartbeats 2000000 in
theorem c_sheet_neg1 (S : ST) (f : Nat) (z : Int32) (hf3 : f < 3) (hneg : z < 0) : EX me_N_sheet 2 [.ref 0, .int (nI 1), .int (nI f), .int z] S (fun r u => r = some (.int ((-10) - nI 5)) ∧ u = pt S 0 10 (nI 5)) := by
  refine EX.of mok_N_sheet (Nat.le_of_ble_eq_true rfl) ?_
  have hz : z ≤ nI 60 := Int32.le_of_lt (Int32.lt_trans hneg (by decide))
  refine run_ok 2 (c' := (2, [(0, .ref 0), (1, .int (nI 1)), (2, .int (nI f)), (3, .int z)], [.int (nI 4), .int (nI 1)], S)) rfl ?_
  refine x_callS [.int (nI 1), .int (nI 4)] rfl cs_N_isBelow.1 lk_6_73 cs_N_isBelow.2.1 rfl rfl (Nat.le_of_ble_eq_true rfl) (by decide) cs_N_isBelow.2.2 (c_isBelow S (nI 1) (nI 4)) ?_
  rintro r u ⟨hr, hu⟩
  rw [hr, hu]
  clear hr hu r u
  refine x_ifB_eq 22 rfl rfl (fun hn => absurd hn (fun z => z (inr_t (by decide) (by decide)))) (fun h5 => ?_)
  refine run_ok 2 (c' := (10, [(0, .ref 0), (1, .int (nI 1)), (2, .int (nI f)), (3, .int z)], [.int (nI 3), .int (nI f)], S)) rfl ?_
  refine x_callS [.int (nI f), .int (nI 3)] rfl cs_N_isBelow.1 lk_6_73 cs_N_isBelow.2.1 rfl rfl (Nat.le_of_ble_eq_true rfl) (by decide) cs_N_isBelow.2.2 (c_isBelow S (nI f) (nI 3)) ?_
  rintro r u ⟨hr, hu⟩
  rw [hr, hu]
  clear hr hu r u
  refine x_ifB_eq 22 rfl rfl (fun hn => absurd hn (fun z => z (inr_t hf3 (by decide)))) (fun h13 => ?_)
  refine run_ok 2 (c' := (19, [(0, .ref 0), (1, .int (nI 1)), (2, .int (nI f)), (3, .int z)], [.int (nI 60), .int z], S)) rfl ?_
  refine x_icmp_le 25 rfl rfl (fun h19 => ?_) (fun hn => absurd hz hn)
  refine run_ok 1 (c' := (26, [(0, .ref 0), (1, .int (nI 1)), (2, .int (nI f)), (3, .int z)], [.int z], S)) rfl ?_
  refine x_if_ge 35 rfl rfl (fun hn => absurd hn (fun z => absurd hneg (Int32.not_lt.mpr z))) (fun h26 => ?_)
  refine run_ok 2 (c' := (31, [(0, .ref 0), (1, .int (nI 1)), (2, .int (nI f)), (3, .int z)], [.int (nI 5), .ref 0], S)) rfl ?_
  refine x_callV [.int (nI 5)] rfl cv_N_find.1 lk_6_134 cv_N_find.2.1 cv_N_find.2.2.1 rfl cv_N_find.2.2.2.1 rfl rfl (Nat.le_of_ble_eq_true rfl) (by decide) cv_N_find.2.2.2.2 (c_find S (5)) ?_
  rintro r x ⟨hr, hu⟩
  rw [hr, hu]
  clear hr hu r x
  exact x_ret (r := some (.int ((-10) - nI 5))) rfl rfl trivial ⟨rfl, rfl⟩ rfl

set_option maxHeartbeats 2000000 in
theorem c_lose_null1 (S : ST) (lo fm sz : Nat) (hH : HR 40 lo fm sz S) (hlo : lo = 1) : EX me_N_lose 2 [.ref 0, .int (nI 1)] S (fun r u => r = some (.int ((-10) - nI 1)) ∧ u = pt S 0 10 (nI 1)) := by
  refine EX.of mok_N_lose (Nat.le_of_ble_eq_true rfl) ?_
  obtain ⟨g3, g1, g2, hl1, hf2, hs60⟩ := id hH
  refine run_ok 2 (c' := (2, [(0, .ref 0), (1, .int (nI 1))], [.int (nI 4), .int (nI 1)], S)) rfl ?_
  refine x_callS [.int (nI 1), .int (nI 4)] rfl cs_N_isBelow.1 lk_6_73 cs_N_isBelow.2.1 rfl rfl (Nat.le_of_ble_eq_true rfl) (by decide) cs_N_isBelow.2.2 (c_isBelow S (nI 1) (nI 4)) ?_
  rintro r u ⟨hr, hu⟩
  rw [hr, hu]
  clear hr hu r u
  refine x_ifB_ne 11 rfl rfl (fun h5 => ?_) (fun hn => absurd (inr_t (by decide) (by decide)) hn)
  refine run_ok 3 (c' := (16, [(0, .ref 0), (1, .int (nI 1))], [.int (nI 1), .ref 37], S)) rfl ?_
  refine x_aald (t := 40) rfl rfl (vp_in_nI (by decide) (by decide)) (by decide) ?_
  refine run_ok 3 (c' := (22, [(0, .ref 0), (1, .int (nI 1)), (2, .ref 40)], [.int (S.1 40 3)], S)) rfl ?_
  refine x_top (v' := nI lo) g3 ?_
  refine x_ifN_eq 31 rfl rfl (by omega) (fun hn => absurd hn (by omega)) (fun h22 => ?_)
  refine run_ok 2 (c' := (27, [(0, .ref 0), (1, .int (nI 1)), (2, .ref 40)], [.int (nI 1), .ref 0], S)) rfl ?_
  refine x_callV [.int (nI 1)] rfl cv_N_find.1 lk_6_134 cv_N_find.2.1 cv_N_find.2.2.1 rfl cv_N_find.2.2.2.1 rfl rfl (Nat.le_of_ble_eq_true rfl) (by decide) cv_N_find.2.2.2.2 (c_find S (1)) ?_
  rintro r x ⟨hr, hu⟩
  rw [hr, hu]
  clear hr hu r x
  exact x_ret (r := some (.int ((-10) - nI 1))) rfl rfl trivial ⟨rfl, rfl⟩ rfl

set_option maxHeartbeats 2000000 in
theorem c_lose_ok1 (S : ST) (lo fm sz : Nat) (hH : HR 40 lo fm sz S) (hlo : lo = 0) : EX me_N_lose 2 [.ref 0, .int (nI 1)] S (fun r u => r = some (.int (nI sz)) ∧ u = pt S 40 3 (nI 1)) := by
  refine EX.of mok_N_lose (Nat.le_of_ble_eq_true rfl) ?_
  obtain ⟨g3, g1, g2, hl1, hf2, hs60⟩ := id hH
  refine run_ok 2 (c' := (2, [(0, .ref 0), (1, .int (nI 1))], [.int (nI 4), .int (nI 1)], S)) rfl ?_
  refine x_callS [.int (nI 1), .int (nI 4)] rfl cs_N_isBelow.1 lk_6_73 cs_N_isBelow.2.1 rfl rfl (Nat.le_of_ble_eq_true rfl) (by decide) cs_N_isBelow.2.2 (c_isBelow S (nI 1) (nI 4)) ?_
  rintro r u ⟨hr, hu⟩
  rw [hr, hu]
  clear hr hu r u
  refine x_ifB_ne 11 rfl rfl (fun h5 => ?_) (fun hn => absurd (inr_t (by decide) (by decide)) hn)
  refine run_ok 3 (c' := (16, [(0, .ref 0), (1, .int (nI 1))], [.int (nI 1), .ref 37], S)) rfl ?_
  refine x_aald (t := 40) rfl rfl (vp_in_nI (by decide) (by decide)) (by decide) ?_
  refine run_ok 3 (c' := (22, [(0, .ref 0), (1, .int (nI 1)), (2, .ref 40)], [.int (S.1 40 3)], S)) rfl ?_
  refine x_top (v' := nI lo) g3 ?_
  refine x_ifN_eq 31 rfl rfl (by omega) (fun h22 => ?_) (fun hn => absurd hlo hn)
  refine run_ok 5 (c' := (40, [(0, .ref 0), (1, .int (nI 1)), (2, .ref 40)], [.int (S.1 40 2)], (pt S 40 3 (nI 1)))) rfl ?_
  refine x_top (v' := nI sz) g2 ?_
  exact x_ret (r := some (.int (nI sz))) rfl rfl trivial ⟨rfl, rfl⟩ rfl

set_option maxHeartbeats 2000000 in
theorem c_put_f1 (S : ST) (lo fm sz : Nat) (hH : HR 40 lo fm sz S) (f : Nat) (x v : Int32) (hf3 : f < 3) (hfn : ¬ fnd lo fm sz f x = 0) : EX me_N_put 2 [.ref 0, .int (nI 1), .int (nI f), .int x, .int v] S (fun r u => r = some (.int ((-10) - nI (fnd lo fm sz f x))) ∧ u = pt S 0 10 (nI (fnd lo fm sz f x))) := by
  refine EX.of mok_N_put (Nat.le_of_ble_eq_true rfl) ?_
  obtain ⟨g3, g1, g2, hl1, hf2, hs60⟩ := id hH
  have q1 := fnd_le lo fm sz f x
  refine run_ok 2 (c' := (2, [(0, .ref 0), (1, .int (nI 1)), (2, .int (nI f)), (3, .int x), (4, .int v)], [.int (nI 4), .int (nI 1)], S)) rfl ?_
  refine x_callS [.int (nI 1), .int (nI 4)] rfl cs_N_isBelow.1 lk_6_73 cs_N_isBelow.2.1 rfl rfl (Nat.le_of_ble_eq_true rfl) (by decide) cs_N_isBelow.2.2 (c_isBelow S (nI 1) (nI 4)) ?_
  rintro r u ⟨hr, hu⟩
  rw [hr, hu]
  clear hr hu r u
  refine x_ifB_eq 16 rfl rfl (fun hn => absurd hn (fun z => z (inr_t (by decide) (by decide)))) (fun h5 => ?_)
  refine run_ok 2 (c' := (10, [(0, .ref 0), (1, .int (nI 1)), (2, .int (nI f)), (3, .int x), (4, .int v)], [.int (nI 3), .int (nI f)], S)) rfl ?_
  refine x_callS [.int (nI f), .int (nI 3)] rfl cs_N_isBelow.1 lk_6_73 cs_N_isBelow.2.1 rfl rfl (Nat.le_of_ble_eq_true rfl) (by decide) cs_N_isBelow.2.2 (c_isBelow S (nI f) (nI 3)) ?_
  rintro r u ⟨hr, hu⟩
  rw [hr, hu]
  clear hr hu r u
  refine x_ifB_ne 19 rfl rfl (fun h13 => ?_) (fun hn => absurd (inr_t hf3 (by decide)) hn)
  refine run_ok 3 (c' := (24, [(0, .ref 0), (1, .int (nI 1)), (2, .int (nI f)), (3, .int x), (4, .int v)], [.int (nI 1), .ref 37], S)) rfl ?_
  refine x_aald (t := 40) rfl rfl (vp_in_nI (by decide) (by decide)) (by decide) ?_
  refine run_ok 2 (c' := (27, [(0, .ref 0), (1, .int (nI 1)), (2, .int (nI f)), (3, .int x), (4, .int v)], [.int x, .int (nI f), .ref 40], S)) rfl ?_
  refine x_callV [.int (nI f), .int x] rfl cv_H_findingAt.1 lk_6_255 cv_H_findingAt.2.1 cv_H_findingAt.2.2.1 rfl cv_H_findingAt.2.2.2.1 rfl rfl (Nat.le_of_ble_eq_true rfl) (by decide) cv_H_findingAt.2.2.2.2 (c_findingAt1 S lo fm sz hH f x hf3) ?_
  rintro r x ⟨hr, hu⟩
  rw [hr, hu]
  clear hr hu r x
  refine run_ok 2 (c' := (34, [(0, .ref 0), (1, .int (nI 1)), (2, .int (nI f)), (3, .int x), (4, .int v), (5, .int (nI (fnd lo fm sz f x)))], [.int (nI (fnd lo fm sz f x))], S)) rfl ?_
  refine x_ifN_eq 44 rfl rfl (by omega) (fun hn => absurd hn hfn) (fun h34 => ?_)
  refine run_ok 2 (c' := (40, [(0, .ref 0), (1, .int (nI 1)), (2, .int (nI f)), (3, .int x), (4, .int v), (5, .int (nI (fnd lo fm sz f x)))], [.int (nI (fnd lo fm sz f x)), .ref 0], S)) rfl ?_
  refine x_callV [.int (nI (fnd lo fm sz f x))] rfl cv_N_find.1 lk_6_134 cv_N_find.2.1 cv_N_find.2.2.1 rfl cv_N_find.2.2.2.1 rfl rfl (Nat.le_of_ble_eq_true rfl) (by decide) cv_N_find.2.2.2.2 (c_find S (fnd lo fm sz f x)) ?_
  rintro r x ⟨hr, hu⟩
  rw [hr, hu]
  clear hr hu r x
  exact x_ret (r := some (.int ((-10) - nI (fnd lo fm sz f x)))) rfl rfl trivial ⟨rfl, rfl⟩ rfl

set_option maxHeartbeats 2000000 in
theorem c_put_ok1 (S : ST) (lo fm sz : Nat) (hH : HR 40 lo fm sz S) (f i : Nat) (v : Int32) (hf3 : f < 3) (hi : i < 60) (hfn : fnd lo fm sz f (nI i) = 0) : EX me_N_put 2 [.ref 0, .int (nI 1), .int (nI f), .int (nI i), .int v] S (fun r u => r = some (.int 1) ∧ u = pt S 41 i (cvt fm v)) := by
  refine EX.of mok_N_put (Nat.le_of_ble_eq_true rfl) ?_
  obtain ⟨g3, g1, g2, hl1, hf2, hs60⟩ := id hH
  have q1 := fnd_le lo fm sz f (nI i)
  refine run_ok 2 (c' := (2, [(0, .ref 0), (1, .int (nI 1)), (2, .int (nI f)), (3, .int (nI i)), (4, .int v)], [.int (nI 4), .int (nI 1)], S)) rfl ?_
  refine x_callS [.int (nI 1), .int (nI 4)] rfl cs_N_isBelow.1 lk_6_73 cs_N_isBelow.2.1 rfl rfl (Nat.le_of_ble_eq_true rfl) (by decide) cs_N_isBelow.2.2 (c_isBelow S (nI 1) (nI 4)) ?_
  rintro r u ⟨hr, hu⟩
  rw [hr, hu]
  clear hr hu r u
  refine x_ifB_eq 16 rfl rfl (fun hn => absurd hn (fun z => z (inr_t (by decide) (by decide)))) (fun h5 => ?_)
  refine run_ok 2 (c' := (10, [(0, .ref 0), (1, .int (nI 1)), (2, .int (nI f)), (3, .int (nI i)), (4, .int v)], [.int (nI 3), .int (nI f)], S)) rfl ?_
  refine x_callS [.int (nI f), .int (nI 3)] rfl cs_N_isBelow.1 lk_6_73 cs_N_isBelow.2.1 rfl rfl (Nat.le_of_ble_eq_true rfl) (by decide) cs_N_isBelow.2.2 (c_isBelow S (nI f) (nI 3)) ?_
  rintro r u ⟨hr, hu⟩
  rw [hr, hu]
  clear hr hu r u
  refine x_ifB_ne 19 rfl rfl (fun h13 => ?_) (fun hn => absurd (inr_t hf3 (by decide)) hn)
  refine run_ok 3 (c' := (24, [(0, .ref 0), (1, .int (nI 1)), (2, .int (nI f)), (3, .int (nI i)), (4, .int v)], [.int (nI 1), .ref 37], S)) rfl ?_
  refine x_aald (t := 40) rfl rfl (vp_in_nI (by decide) (by decide)) (by decide) ?_
  refine run_ok 2 (c' := (27, [(0, .ref 0), (1, .int (nI 1)), (2, .int (nI f)), (3, .int (nI i)), (4, .int v)], [.int (nI i), .int (nI f), .ref 40], S)) rfl ?_
  refine x_callV [.int (nI f), .int (nI i)] rfl cv_H_findingAt.1 lk_6_255 cv_H_findingAt.2.1 cv_H_findingAt.2.2.1 rfl cv_H_findingAt.2.2.2.1 rfl rfl (Nat.le_of_ble_eq_true rfl) (by decide) cv_H_findingAt.2.2.2.2 (c_findingAt1 S lo fm sz hH f (nI i) hf3) ?_
  rintro r x ⟨hr, hu⟩
  rw [hr, hu]
  clear hr hu r x
  refine run_ok 2 (c' := (34, [(0, .ref 0), (1, .int (nI 1)), (2, .int (nI f)), (3, .int (nI i)), (4, .int v), (5, .int (nI (fnd lo fm sz f (nI i))))], [.int (nI (fnd lo fm sz f (nI i)))], S)) rfl ?_
  refine x_ifN_eq 44 rfl rfl (by omega) (fun h34 => ?_) (fun hn => absurd hfn hn)
  refine run_ok 3 (c' := (49, [(0, .ref 0), (1, .int (nI 1)), (2, .int (nI f)), (3, .int (nI i)), (4, .int v), (5, .int (nI (fnd lo fm sz f (nI i))))], [.int (nI 1), .ref 37], S)) rfl ?_
  refine x_aald (t := 40) rfl rfl (vp_in_nI (by decide) (by decide)) (by decide) ?_
  refine run_ok 2 (c' := (53, [(0, .ref 0), (1, .int (nI 1)), (2, .int (nI f)), (3, .int (nI i)), (4, .int v), (5, .int (nI (fnd lo fm sz f (nI i))))], [.int v, .int (nI i), .ref 40], S)) rfl ?_
  refine x_callV [.int (nI i), .int v] rfl cv_H_set.1 lk_6_258 cv_H_set.2.1 cv_H_set.2.2.1 rfl cv_H_set.2.2.2.1 rfl rfl (Nat.le_of_ble_eq_true rfl) (by decide) cv_H_set.2.2.2.2 (c_set1 S lo fm sz hH i v (by omega)) ?_
  rintro r x ⟨hr, hu⟩
  rw [hr, hu]
  clear hr hu r x
  refine run_ok 1 (c' := (57, [(0, .ref 0), (1, .int (nI 1)), (2, .int (nI f)), (3, .int (nI i)), (4, .int v), (5, .int (nI (fnd lo fm sz f (nI i))))], [.int (nI 1)], (pt S 41 i (cvt fm v)))) rfl ?_
  exact x_ret (r := some (.int (nI 1))) rfl rfl trivial ⟨rfl, rfl⟩ rfl

set_option maxHeartbeats 2000000 in
theorem c_get_f1 (S : ST) (lo fm sz : Nat) (hH : HR 40 lo fm sz S) (f : Nat) (x : Int32) (hf3 : f < 3) (hfn : ¬ fnd lo fm sz f x = 0) : EX me_N_get 2 [.ref 0, .int (nI 1), .int (nI f), .int x] S (fun r u => r = some (.int (-2147483648)) ∧ u = pt S 0 10 (nI (fnd lo fm sz f x))) := by
  refine EX.of mok_N_get (Nat.le_of_ble_eq_true rfl) ?_
  obtain ⟨g3, g1, g2, hl1, hf2, hs60⟩ := id hH
  have q1 := fnd_le lo fm sz f x
  refine run_ok 2 (c' := (2, [(0, .ref 0), (1, .int (nI 1)), (2, .int (nI f)), (3, .int x)], [.int (nI 4), .int (nI 1)], S)) rfl ?_
  refine x_callS [.int (nI 1), .int (nI 4)] rfl cs_N_isBelow.1 lk_6_73 cs_N_isBelow.2.1 rfl rfl (Nat.le_of_ble_eq_true rfl) (by decide) cs_N_isBelow.2.2 (c_isBelow S (nI 1) (nI 4)) ?_
  rintro r u ⟨hr, hu⟩
  rw [hr, hu]
  clear hr hu r u
  refine x_ifB_eq 16 rfl rfl (fun hn => absurd hn (fun z => z (inr_t (by decide) (by decide)))) (fun h5 => ?_)
  refine run_ok 2 (c' := (10, [(0, .ref 0), (1, .int (nI 1)), (2, .int (nI f)), (3, .int x)], [.int (nI 3), .int (nI f)], S)) rfl ?_
  refine x_callS [.int (nI f), .int (nI 3)] rfl cs_N_isBelow.1 lk_6_73 cs_N_isBelow.2.1 rfl rfl (Nat.le_of_ble_eq_true rfl) (by decide) cs_N_isBelow.2.2 (c_isBelow S (nI f) (nI 3)) ?_
  rintro r u ⟨hr, hu⟩
  rw [hr, hu]
  clear hr hu r u
  refine x_ifB_ne 20 rfl rfl (fun h13 => ?_) (fun hn => absurd (inr_t hf3 (by decide)) hn)
  refine run_ok 3 (c' := (25, [(0, .ref 0), (1, .int (nI 1)), (2, .int (nI f)), (3, .int x)], [.int (nI 1), .ref 37], S)) rfl ?_
  refine x_aald (t := 40) rfl rfl (vp_in_nI (by decide) (by decide)) (by decide) ?_
  refine run_ok 2 (c' := (28, [(0, .ref 0), (1, .int (nI 1)), (2, .int (nI f)), (3, .int x)], [.int x, .int (nI f), .ref 40], S)) rfl ?_
  refine x_callV [.int (nI f), .int x] rfl cv_H_findingAt.1 lk_6_255 cv_H_findingAt.2.1 cv_H_findingAt.2.2.1 rfl cv_H_findingAt.2.2.2.1 rfl rfl (Nat.le_of_ble_eq_true rfl) (by decide) cv_H_findingAt.2.2.2.2 (c_findingAt1 S lo fm sz hH f x hf3) ?_
  rintro r x ⟨hr, hu⟩
  rw [hr, hu]
  clear hr hu r x
  refine run_ok 2 (c' := (35, [(0, .ref 0), (1, .int (nI 1)), (2, .int (nI f)), (3, .int x), (4, .int (nI (fnd lo fm sz f x)))], [.int (nI (fnd lo fm sz f x))], S)) rfl ?_
  refine x_ifN_eq 48 rfl rfl (by omega) (fun hn => absurd hn hfn) (fun h35 => ?_)
  refine run_ok 4 (c' := (47, [(0, .ref 0), (1, .int (nI 1)), (2, .int (nI f)), (3, .int x), (4, .int (nI (fnd lo fm sz f x)))], [.int (-2147483648)], (pt S 0 10 (nI (fnd lo fm sz f x))))) rfl ?_
  exact x_ret (r := some (.int (-2147483648))) rfl rfl trivial ⟨rfl, rfl⟩ rfl

set_option maxHeartbeats 2000000 in
theorem c_get_ok1 (S : ST) (lo fm sz : Nat) (hH : HR 40 lo fm sz S) (f i : Nat) (hf3 : f < 3) (hi : i < 60) (hfn : fnd lo fm sz f (nI i) = 0) : EX me_N_get 2 [.ref 0, .int (nI 1), .int (nI f), .int (nI i)] S (fun r u => r = some (.int (S.1 41 i)) ∧ u = S) := by
  refine EX.of mok_N_get (Nat.le_of_ble_eq_true rfl) ?_
  obtain ⟨g3, g1, g2, hl1, hf2, hs60⟩ := id hH
  have q1 := fnd_le lo fm sz f (nI i)
  refine run_ok 2 (c' := (2, [(0, .ref 0), (1, .int (nI 1)), (2, .int (nI f)), (3, .int (nI i))], [.int (nI 4), .int (nI 1)], S)) rfl ?_
  refine x_callS [.int (nI 1), .int (nI 4)] rfl cs_N_isBelow.1 lk_6_73 cs_N_isBelow.2.1 rfl rfl (Nat.le_of_ble_eq_true rfl) (by decide) cs_N_isBelow.2.2 (c_isBelow S (nI 1) (nI 4)) ?_
  rintro r u ⟨hr, hu⟩
  rw [hr, hu]
  clear hr hu r u
  refine x_ifB_eq 16 rfl rfl (fun hn => absurd hn (fun z => z (inr_t (by decide) (by decide)))) (fun h5 => ?_)
  refine run_ok 2 (c' := (10, [(0, .ref 0), (1, .int (nI 1)), (2, .int (nI f)), (3, .int (nI i))], [.int (nI 3), .int (nI f)], S)) rfl ?_
  refine x_callS [.int (nI f), .int (nI 3)] rfl cs_N_isBelow.1 lk_6_73 cs_N_isBelow.2.1 rfl rfl (Nat.le_of_ble_eq_true rfl) (by decide) cs_N_isBelow.2.2 (c_isBelow S (nI f) (nI 3)) ?_
  rintro r u ⟨hr, hu⟩
  rw [hr, hu]
  clear hr hu r u
  refine x_ifB_ne 20 rfl rfl (fun h13 => ?_) (fun hn => absurd (inr_t hf3 (by decide)) hn)
  refine run_ok 3 (c' := (25, [(0, .ref 0), (1, .int (nI 1)), (2, .int (nI f)), (3, .int (nI i))], [.int (nI 1), .ref 37], S)) rfl ?_
  refine x_aald (t := 40) rfl rfl (vp_in_nI (by decide) (by decide)) (by decide) ?_
  refine run_ok 2 (c' := (28, [(0, .ref 0), (1, .int (nI 1)), (2, .int (nI f)), (3, .int (nI i))], [.int (nI i), .int (nI f), .ref 40], S)) rfl ?_
  refine x_callV [.int (nI f), .int (nI i)] rfl cv_H_findingAt.1 lk_6_255 cv_H_findingAt.2.1 cv_H_findingAt.2.2.1 rfl cv_H_findingAt.2.2.2.1 rfl rfl (Nat.le_of_ble_eq_true rfl) (by decide) cv_H_findingAt.2.2.2.2 (c_findingAt1 S lo fm sz hH f (nI i) hf3) ?_
  rintro r x ⟨hr, hu⟩
  rw [hr, hu]
  clear hr hu r x
  refine run_ok 2 (c' := (35, [(0, .ref 0), (1, .int (nI 1)), (2, .int (nI f)), (3, .int (nI i)), (4, .int (nI (fnd lo fm sz f (nI i))))], [.int (nI (fnd lo fm sz f (nI i)))], S)) rfl ?_
  refine x_ifN_eq 48 rfl rfl (by omega) (fun h35 => ?_) (fun hn => absurd hfn hn)
  refine run_ok 3 (c' := (53, [(0, .ref 0), (1, .int (nI 1)), (2, .int (nI f)), (3, .int (nI i)), (4, .int (nI (fnd lo fm sz f (nI i))))], [.int (nI 1), .ref 37], S)) rfl ?_
  refine x_aald (t := 40) rfl rfl (vp_in_nI (by decide) (by decide)) (by decide) ?_
  refine run_ok 2 (c' := (58, [(0, .ref 0), (1, .int (nI 1)), (2, .int (nI f)), (3, .int (nI i)), (4, .int (nI (fnd lo fm sz f (nI i))))], [.int (nI i), .ref 41], S)) rfl ?_
  refine x_iaN (S.1 41 i) rfl rfl (by decide) (by omega) rfl ?_
  exact x_ret (r := some (.int (S.1 41 i))) rfl rfl trivial ⟨rfl, rfl⟩ rfl

set_option maxHeartbeats 2000000 in
theorem c_sheet_ok2 (S : ST) (f n : Nat) (hf3 : f < 3) (hn60 : n ≤ 60) : EX me_N_sheet 2 [.ref 0, .int (nI 2), .int (nI f), .int (nI n)] S (fun r u => r = some (.int (nI n)) ∧ (∀ j, j < 60 → u.1 43 j = nI 0) ∧ u.1 42 1 = nI f ∧ u.1 42 2 = nI n ∧ u.1 42 3 = nI 0 ∧ fr [42, 43] S u ∧ u.2 = S.2) := by
  refine EX.of mok_N_sheet (Nat.le_of_ble_eq_true rfl) ?_
  refine run_ok 2 (c' := (2, [(0, .ref 0), (1, .int (nI 2)), (2, .int (nI f)), (3, .int (nI n))], [.int (nI 4), .int (nI 2)], S)) rfl ?_
  refine x_callS [.int (nI 2), .int (nI 4)] rfl cs_N_isBelow.1 lk_6_73 cs_N_isBelow.2.1 rfl rfl (Nat.le_of_ble_eq_true rfl) (by decide) cs_N_isBelow.2.2 (c_isBelow S (nI 2) (nI 4)) ?_
  rintro r u ⟨hr, hu⟩
  rw [hr, hu]
  clear hr hu r u
  refine x_ifB_eq 22 rfl rfl (fun hn => absurd hn (fun z => z (inr_t (by decide) (by decide)))) (fun h5 => ?_)
  refine run_ok 2 (c' := (10, [(0, .ref 0), (1, .int (nI 2)), (2, .int (nI f)), (3, .int (nI n))], [.int (nI 3), .int (nI f)], S)) rfl ?_
  refine x_callS [.int (nI f), .int (nI 3)] rfl cs_N_isBelow.1 lk_6_73 cs_N_isBelow.2.1 rfl rfl (Nat.le_of_ble_eq_true rfl) (by decide) cs_N_isBelow.2.2 (c_isBelow S (nI f) (nI 3)) ?_
  rintro r u ⟨hr, hu⟩
  rw [hr, hu]
  clear hr hu r u
  refine x_ifB_eq 22 rfl rfl (fun hn => absurd hn (fun z => z (inr_t hf3 (by decide)))) (fun h13 => ?_)
  refine run_ok 2 (c' := (19, [(0, .ref 0), (1, .int (nI 2)), (2, .int (nI f)), (3, .int (nI n))], [.int (nI 60), .int (nI n)], S)) rfl ?_
  refine x_icmpN_le 25 rfl rfl (by omega) (by omega) (fun h19 => ?_) (fun hn => absurd hn60 hn)
  refine run_ok 1 (c' := (26, [(0, .ref 0), (1, .int (nI 2)), (2, .int (nI f)), (3, .int (nI n))], [.int (nI n)], S)) rfl ?_
  refine x_ifN_ge 35 rfl rfl (by omega) (fun h26 => ?_) (fun hn => absurd (Nat.zero_le _) hn)
  refine run_ok 3 (c' := (40, [(0, .ref 0), (1, .int (nI 2)), (2, .int (nI f)), (3, .int (nI n))], [.int (nI 2), .ref 37], S)) rfl ?_
  refine x_aald (t := 42) rfl rfl (vp_in_nI (by decide) (by decide)) (by decide) ?_
  refine run_ok 2 (c' := (43, [(0, .ref 0), (1, .int (nI 2)), (2, .int (nI f)), (3, .int (nI n))], [.int (nI n), .int (nI f), .ref 42], S)) rfl ?_
  refine x_callV [.int (nI f), .int (nI n)] rfl cv_H_renew.1 lk_6_252 cv_H_renew.2.1 cv_H_renew.2.2.1 rfl cv_H_renew.2.2.2.1 rfl rfl (Nat.le_of_ble_eq_true rfl) (by decide) cv_H_renew.2.2.2.2 (c_renew2 S f n) ?_
  rintro r u ⟨hr, hz⟩
  rw [hr]
  clear hr r
  refine run_ok 1 (c' := (47, [(0, .ref 0), (1, .int (nI 2)), (2, .int (nI f)), (3, .int (nI n))], [.int (nI n)], u)) rfl ?_
  exact x_ret (r := some (.int (nI n))) rfl rfl trivial ⟨rfl, hz⟩ rfl

set_option maxHeartbeats 2000000 in
theorem c_sheet_neg2 (S : ST) (f : Nat) (z : Int32) (hf3 : f < 3) (hneg : z < 0) : EX me_N_sheet 2 [.ref 0, .int (nI 2), .int (nI f), .int z] S (fun r u => r = some (.int ((-10) - nI 5)) ∧ u = pt S 0 10 (nI 5)) := by
  refine EX.of mok_N_sheet (Nat.le_of_ble_eq_true rfl) ?_
  have hz : z ≤ nI 60 := Int32.le_of_lt (Int32.lt_trans hneg (by decide))
  refine run_ok 2 (c' := (2, [(0, .ref 0), (1, .int (nI 2)), (2, .int (nI f)), (3, .int z)], [.int (nI 4), .int (nI 2)], S)) rfl ?_
  refine x_callS [.int (nI 2), .int (nI 4)] rfl cs_N_isBelow.1 lk_6_73 cs_N_isBelow.2.1 rfl rfl (Nat.le_of_ble_eq_true rfl) (by decide) cs_N_isBelow.2.2 (c_isBelow S (nI 2) (nI 4)) ?_
  rintro r u ⟨hr, hu⟩
  rw [hr, hu]
  clear hr hu r u
  refine x_ifB_eq 22 rfl rfl (fun hn => absurd hn (fun z => z (inr_t (by decide) (by decide)))) (fun h5 => ?_)
  refine run_ok 2 (c' := (10, [(0, .ref 0), (1, .int (nI 2)), (2, .int (nI f)), (3, .int z)], [.int (nI 3), .int (nI f)], S)) rfl ?_
  refine x_callS [.int (nI f), .int (nI 3)] rfl cs_N_isBelow.1 lk_6_73 cs_N_isBelow.2.1 rfl rfl (Nat.le_of_ble_eq_true rfl) (by decide) cs_N_isBelow.2.2 (c_isBelow S (nI f) (nI 3)) ?_
  rintro r u ⟨hr, hu⟩
  rw [hr, hu]
  clear hr hu r u
  refine x_ifB_eq 22 rfl rfl (fun hn => absurd hn (fun z => z (inr_t hf3 (by decide)))) (fun h13 => ?_)
  refine run_ok 2 (c' := (19, [(0, .ref 0), (1, .int (nI 2)), (2, .int (nI f)), (3, .int z)], [.int (nI 60), .int z], S)) rfl ?_
  refine x_icmp_le 25 rfl rfl (fun h19 => ?_) (fun hn => absurd hz hn)
  refine run_ok 1 (c' := (26, [(0, .ref 0), (1, .int (nI 2)), (2, .int (nI f)), (3, .int z)], [.int z], S)) rfl ?_
  refine x_if_ge 35 rfl rfl (fun hn => absurd hn (fun z => absurd hneg (Int32.not_lt.mpr z))) (fun h26 => ?_)
  refine run_ok 2 (c' := (31, [(0, .ref 0), (1, .int (nI 2)), (2, .int (nI f)), (3, .int z)], [.int (nI 5), .ref 0], S)) rfl ?_
  refine x_callV [.int (nI 5)] rfl cv_N_find.1 lk_6_134 cv_N_find.2.1 cv_N_find.2.2.1 rfl cv_N_find.2.2.2.1 rfl rfl (Nat.le_of_ble_eq_true rfl) (by decide) cv_N_find.2.2.2.2 (c_find S (5)) ?_
  rintro r x ⟨hr, hu⟩
  rw [hr, hu]
  clear hr hu r x
  exact x_ret (r := some (.int ((-10) - nI 5))) rfl rfl trivial ⟨rfl, rfl⟩ rfl

set_option maxHeartbeats 2000000 in
theorem c_lose_null2 (S : ST) (lo fm sz : Nat) (hH : HR 42 lo fm sz S) (hlo : lo = 1) : EX me_N_lose 2 [.ref 0, .int (nI 2)] S (fun r u => r = some (.int ((-10) - nI 1)) ∧ u = pt S 0 10 (nI 1)) := by
  refine EX.of mok_N_lose (Nat.le_of_ble_eq_true rfl) ?_
  obtain ⟨g3, g1, g2, hl1, hf2, hs60⟩ := id hH
  refine run_ok 2 (c' := (2, [(0, .ref 0), (1, .int (nI 2))], [.int (nI 4), .int (nI 2)], S)) rfl ?_
  refine x_callS [.int (nI 2), .int (nI 4)] rfl cs_N_isBelow.1 lk_6_73 cs_N_isBelow.2.1 rfl rfl (Nat.le_of_ble_eq_true rfl) (by decide) cs_N_isBelow.2.2 (c_isBelow S (nI 2) (nI 4)) ?_
  rintro r u ⟨hr, hu⟩
  rw [hr, hu]
  clear hr hu r u
  refine x_ifB_ne 11 rfl rfl (fun h5 => ?_) (fun hn => absurd (inr_t (by decide) (by decide)) hn)
  refine run_ok 3 (c' := (16, [(0, .ref 0), (1, .int (nI 2))], [.int (nI 2), .ref 37], S)) rfl ?_
  refine x_aald (t := 42) rfl rfl (vp_in_nI (by decide) (by decide)) (by decide) ?_
  refine run_ok 3 (c' := (22, [(0, .ref 0), (1, .int (nI 2)), (2, .ref 42)], [.int (S.1 42 3)], S)) rfl ?_
  refine x_top (v' := nI lo) g3 ?_
  refine x_ifN_eq 31 rfl rfl (by omega) (fun hn => absurd hn (by omega)) (fun h22 => ?_)
  refine run_ok 2 (c' := (27, [(0, .ref 0), (1, .int (nI 2)), (2, .ref 42)], [.int (nI 1), .ref 0], S)) rfl ?_
  refine x_callV [.int (nI 1)] rfl cv_N_find.1 lk_6_134 cv_N_find.2.1 cv_N_find.2.2.1 rfl cv_N_find.2.2.2.1 rfl rfl (Nat.le_of_ble_eq_true rfl) (by decide) cv_N_find.2.2.2.2 (c_find S (1)) ?_
  rintro r x ⟨hr, hu⟩
  rw [hr, hu]
  clear hr hu r x
  exact x_ret (r := some (.int ((-10) - nI 1))) rfl rfl trivial ⟨rfl, rfl⟩ rfl

set_option maxHeartbeats 2000000 in
theorem c_lose_ok2 (S : ST) (lo fm sz : Nat) (hH : HR 42 lo fm sz S) (hlo : lo = 0) : EX me_N_lose 2 [.ref 0, .int (nI 2)] S (fun r u => r = some (.int (nI sz)) ∧ u = pt S 42 3 (nI 1)) := by
  refine EX.of mok_N_lose (Nat.le_of_ble_eq_true rfl) ?_
  obtain ⟨g3, g1, g2, hl1, hf2, hs60⟩ := id hH
  refine run_ok 2 (c' := (2, [(0, .ref 0), (1, .int (nI 2))], [.int (nI 4), .int (nI 2)], S)) rfl ?_
  refine x_callS [.int (nI 2), .int (nI 4)] rfl cs_N_isBelow.1 lk_6_73 cs_N_isBelow.2.1 rfl rfl (Nat.le_of_ble_eq_true rfl) (by decide) cs_N_isBelow.2.2 (c_isBelow S (nI 2) (nI 4)) ?_
  rintro r u ⟨hr, hu⟩
  rw [hr, hu]
  clear hr hu r u
  refine x_ifB_ne 11 rfl rfl (fun h5 => ?_) (fun hn => absurd (inr_t (by decide) (by decide)) hn)
  refine run_ok 3 (c' := (16, [(0, .ref 0), (1, .int (nI 2))], [.int (nI 2), .ref 37], S)) rfl ?_
  refine x_aald (t := 42) rfl rfl (vp_in_nI (by decide) (by decide)) (by decide) ?_
  refine run_ok 3 (c' := (22, [(0, .ref 0), (1, .int (nI 2)), (2, .ref 42)], [.int (S.1 42 3)], S)) rfl ?_
  refine x_top (v' := nI lo) g3 ?_
  refine x_ifN_eq 31 rfl rfl (by omega) (fun h22 => ?_) (fun hn => absurd hlo hn)
  refine run_ok 5 (c' := (40, [(0, .ref 0), (1, .int (nI 2)), (2, .ref 42)], [.int (S.1 42 2)], (pt S 42 3 (nI 1)))) rfl ?_
  refine x_top (v' := nI sz) g2 ?_
  exact x_ret (r := some (.int (nI sz))) rfl rfl trivial ⟨rfl, rfl⟩ rfl

set_option maxHeartbeats 2000000 in
theorem c_put_f2 (S : ST) (lo fm sz : Nat) (hH : HR 42 lo fm sz S) (f : Nat) (x v : Int32) (hf3 : f < 3) (hfn : ¬ fnd lo fm sz f x = 0) : EX me_N_put 2 [.ref 0, .int (nI 2), .int (nI f), .int x, .int v] S (fun r u => r = some (.int ((-10) - nI (fnd lo fm sz f x))) ∧ u = pt S 0 10 (nI (fnd lo fm sz f x))) := by
  refine EX.of mok_N_put (Nat.le_of_ble_eq_true rfl) ?_
  obtain ⟨g3, g1, g2, hl1, hf2, hs60⟩ := id hH
  have q1 := fnd_le lo fm sz f x
  refine run_ok 2 (c' := (2, [(0, .ref 0), (1, .int (nI 2)), (2, .int (nI f)), (3, .int x), (4, .int v)], [.int (nI 4), .int (nI 2)], S)) rfl ?_
  refine x_callS [.int (nI 2), .int (nI 4)] rfl cs_N_isBelow.1 lk_6_73 cs_N_isBelow.2.1 rfl rfl (Nat.le_of_ble_eq_true rfl) (by decide) cs_N_isBelow.2.2 (c_isBelow S (nI 2) (nI 4)) ?_
  rintro r u ⟨hr, hu⟩
  rw [hr, hu]
  clear hr hu r u
  refine x_ifB_eq 16 rfl rfl (fun hn => absurd hn (fun z => z (inr_t (by decide) (by decide)))) (fun h5 => ?_)
  refine run_ok 2 (c' := (10, [(0, .ref 0), (1, .int (nI 2)), (2, .int (nI f)), (3, .int x), (4, .int v)], [.int (nI 3), .int (nI f)], S)) rfl ?_
  refine x_callS [.int (nI f), .int (nI 3)] rfl cs_N_isBelow.1 lk_6_73 cs_N_isBelow.2.1 rfl rfl (Nat.le_of_ble_eq_true rfl) (by decide) cs_N_isBelow.2.2 (c_isBelow S (nI f) (nI 3)) ?_
  rintro r u ⟨hr, hu⟩
  rw [hr, hu]
  clear hr hu r u
  refine x_ifB_ne 19 rfl rfl (fun h13 => ?_) (fun hn => absurd (inr_t hf3 (by decide)) hn)
  refine run_ok 3 (c' := (24, [(0, .ref 0), (1, .int (nI 2)), (2, .int (nI f)), (3, .int x), (4, .int v)], [.int (nI 2), .ref 37], S)) rfl ?_
  refine x_aald (t := 42) rfl rfl (vp_in_nI (by decide) (by decide)) (by decide) ?_
  refine run_ok 2 (c' := (27, [(0, .ref 0), (1, .int (nI 2)), (2, .int (nI f)), (3, .int x), (4, .int v)], [.int x, .int (nI f), .ref 42], S)) rfl ?_
  refine x_callV [.int (nI f), .int x] rfl cv_H_findingAt.1 lk_6_255 cv_H_findingAt.2.1 cv_H_findingAt.2.2.1 rfl cv_H_findingAt.2.2.2.1 rfl rfl (Nat.le_of_ble_eq_true rfl) (by decide) cv_H_findingAt.2.2.2.2 (c_findingAt2 S lo fm sz hH f x hf3) ?_
  rintro r x ⟨hr, hu⟩
  rw [hr, hu]
  clear hr hu r x
  refine run_ok 2 (c' := (34, [(0, .ref 0), (1, .int (nI 2)), (2, .int (nI f)), (3, .int x), (4, .int v), (5, .int (nI (fnd lo fm sz f x)))], [.int (nI (fnd lo fm sz f x))], S)) rfl ?_
  refine x_ifN_eq 44 rfl rfl (by omega) (fun hn => absurd hn hfn) (fun h34 => ?_)
  refine run_ok 2 (c' := (40, [(0, .ref 0), (1, .int (nI 2)), (2, .int (nI f)), (3, .int x), (4, .int v), (5, .int (nI (fnd lo fm sz f x)))], [.int (nI (fnd lo fm sz f x)), .ref 0], S)) rfl ?_
  refine x_callV [.int (nI (fnd lo fm sz f x))] rfl cv_N_find.1 lk_6_134 cv_N_find.2.1 cv_N_find.2.2.1 rfl cv_N_find.2.2.2.1 rfl rfl (Nat.le_of_ble_eq_true rfl) (by decide) cv_N_find.2.2.2.2 (c_find S (fnd lo fm sz f x)) ?_
  rintro r x ⟨hr, hu⟩
  rw [hr, hu]
  clear hr hu r x
  exact x_ret (r := some (.int ((-10) - nI (fnd lo fm sz f x)))) rfl rfl trivial ⟨rfl, rfl⟩ rfl

set_option maxHeartbeats 2000000 in
theorem c_put_ok2 (S : ST) (lo fm sz : Nat) (hH : HR 42 lo fm sz S) (f i : Nat) (v : Int32) (hf3 : f < 3) (hi : i < 60) (hfn : fnd lo fm sz f (nI i) = 0) : EX me_N_put 2 [.ref 0, .int (nI 2), .int (nI f), .int (nI i), .int v] S (fun r u => r = some (.int 1) ∧ u = pt S 43 i (cvt fm v)) := by
  refine EX.of mok_N_put (Nat.le_of_ble_eq_true rfl) ?_
  obtain ⟨g3, g1, g2, hl1, hf2, hs60⟩ := id hH
  have q1 := fnd_le lo fm sz f (nI i)
  refine run_ok 2 (c' := (2, [(0, .ref 0), (1, .int (nI 2)), (2, .int (nI f)), (3, .int (nI i)), (4, .int v)], [.int (nI 4), .int (nI 2)], S)) rfl ?_
  refine x_callS [.int (nI 2), .int (nI 4)] rfl cs_N_isBelow.1 lk_6_73 cs_N_isBelow.2.1 rfl rfl (Nat.le_of_ble_eq_true rfl) (by decide) cs_N_isBelow.2.2 (c_isBelow S (nI 2) (nI 4)) ?_
  rintro r u ⟨hr, hu⟩
  rw [hr, hu]
  clear hr hu r u
  refine x_ifB_eq 16 rfl rfl (fun hn => absurd hn (fun z => z (inr_t (by decide) (by decide)))) (fun h5 => ?_)
  refine run_ok 2 (c' := (10, [(0, .ref 0), (1, .int (nI 2)), (2, .int (nI f)), (3, .int (nI i)), (4, .int v)], [.int (nI 3), .int (nI f)], S)) rfl ?_
  refine x_callS [.int (nI f), .int (nI 3)] rfl cs_N_isBelow.1 lk_6_73 cs_N_isBelow.2.1 rfl rfl (Nat.le_of_ble_eq_true rfl) (by decide) cs_N_isBelow.2.2 (c_isBelow S (nI f) (nI 3)) ?_
  rintro r u ⟨hr, hu⟩
  rw [hr, hu]
  clear hr hu r u
  refine x_ifB_ne 19 rfl rfl (fun h13 => ?_) (fun hn => absurd (inr_t hf3 (by decide)) hn)
  refine run_ok 3 (c' := (24, [(0, .ref 0), (1, .int (nI 2)), (2, .int (nI f)), (3, .int (nI i)), (4, .int v)], [.int (nI 2), .ref 37], S)) rfl ?_
  refine x_aald (t := 42) rfl rfl (vp_in_nI (by decide) (by decide)) (by decide) ?_
  refine run_ok 2 (c' := (27, [(0, .ref 0), (1, .int (nI 2)), (2, .int (nI f)), (3, .int (nI i)), (4, .int v)], [.int (nI i), .int (nI f), .ref 42], S)) rfl ?_
  refine x_callV [.int (nI f), .int (nI i)] rfl cv_H_findingAt.1 lk_6_255 cv_H_findingAt.2.1 cv_H_findingAt.2.2.1 rfl cv_H_findingAt.2.2.2.1 rfl rfl (Nat.le_of_ble_eq_true rfl) (by decide) cv_H_findingAt.2.2.2.2 (c_findingAt2 S lo fm sz hH f (nI i) hf3) ?_
  rintro r x ⟨hr, hu⟩
  rw [hr, hu]
  clear hr hu r x
  refine run_ok 2 (c' := (34, [(0, .ref 0), (1, .int (nI 2)), (2, .int (nI f)), (3, .int (nI i)), (4, .int v), (5, .int (nI (fnd lo fm sz f (nI i))))], [.int (nI (fnd lo fm sz f (nI i)))], S)) rfl ?_
  refine x_ifN_eq 44 rfl rfl (by omega) (fun h34 => ?_) (fun hn => absurd hfn hn)
  refine run_ok 3 (c' := (49, [(0, .ref 0), (1, .int (nI 2)), (2, .int (nI f)), (3, .int (nI i)), (4, .int v), (5, .int (nI (fnd lo fm sz f (nI i))))], [.int (nI 2), .ref 37], S)) rfl ?_
  refine x_aald (t := 42) rfl rfl (vp_in_nI (by decide) (by decide)) (by decide) ?_
  refine run_ok 2 (c' := (53, [(0, .ref 0), (1, .int (nI 2)), (2, .int (nI f)), (3, .int (nI i)), (4, .int v), (5, .int (nI (fnd lo fm sz f (nI i))))], [.int v, .int (nI i), .ref 42], S)) rfl ?_
  refine x_callV [.int (nI i), .int v] rfl cv_H_set.1 lk_6_258 cv_H_set.2.1 cv_H_set.2.2.1 rfl cv_H_set.2.2.2.1 rfl rfl (Nat.le_of_ble_eq_true rfl) (by decide) cv_H_set.2.2.2.2 (c_set2 S lo fm sz hH i v (by omega)) ?_
  rintro r x ⟨hr, hu⟩
  rw [hr, hu]
  clear hr hu r x
  refine run_ok 1 (c' := (57, [(0, .ref 0), (1, .int (nI 2)), (2, .int (nI f)), (3, .int (nI i)), (4, .int v), (5, .int (nI (fnd lo fm sz f (nI i))))], [.int (nI 1)], (pt S 43 i (cvt fm v)))) rfl ?_
  exact x_ret (r := some (.int (nI 1))) rfl rfl trivial ⟨rfl, rfl⟩ rfl

set_option maxHeartbeats 2000000 in
theorem c_get_f2 (S : ST) (lo fm sz : Nat) (hH : HR 42 lo fm sz S) (f : Nat) (x : Int32) (hf3 : f < 3) (hfn : ¬ fnd lo fm sz f x = 0) : EX me_N_get 2 [.ref 0, .int (nI 2), .int (nI f), .int x] S (fun r u => r = some (.int (-2147483648)) ∧ u = pt S 0 10 (nI (fnd lo fm sz f x))) := by
  refine EX.of mok_N_get (Nat.le_of_ble_eq_true rfl) ?_
  obtain ⟨g3, g1, g2, hl1, hf2, hs60⟩ := id hH
  have q1 := fnd_le lo fm sz f x
  refine run_ok 2 (c' := (2, [(0, .ref 0), (1, .int (nI 2)), (2, .int (nI f)), (3, .int x)], [.int (nI 4), .int (nI 2)], S)) rfl ?_
  refine x_callS [.int (nI 2), .int (nI 4)] rfl cs_N_isBelow.1 lk_6_73 cs_N_isBelow.2.1 rfl rfl (Nat.le_of_ble_eq_true rfl) (by decide) cs_N_isBelow.2.2 (c_isBelow S (nI 2) (nI 4)) ?_
  rintro r u ⟨hr, hu⟩
  rw [hr, hu]
  clear hr hu r u
  refine x_ifB_eq 16 rfl rfl (fun hn => absurd hn (fun z => z (inr_t (by decide) (by decide)))) (fun h5 => ?_)
  refine run_ok 2 (c' := (10, [(0, .ref 0), (1, .int (nI 2)), (2, .int (nI f)), (3, .int x)], [.int (nI 3), .int (nI f)], S)) rfl ?_
  refine x_callS [.int (nI f), .int (nI 3)] rfl cs_N_isBelow.1 lk_6_73 cs_N_isBelow.2.1 rfl rfl (Nat.le_of_ble_eq_true rfl) (by decide) cs_N_isBelow.2.2 (c_isBelow S (nI f) (nI 3)) ?_
  rintro r u ⟨hr, hu⟩
  rw [hr, hu]
  clear hr hu r u
  refine x_ifB_ne 20 rfl rfl (fun h13 => ?_) (fun hn => absurd (inr_t hf3 (by decide)) hn)
  refine run_ok 3 (c' := (25, [(0, .ref 0), (1, .int (nI 2)), (2, .int (nI f)), (3, .int x)], [.int (nI 2), .ref 37], S)) rfl ?_
  refine x_aald (t := 42) rfl rfl (vp_in_nI (by decide) (by decide)) (by decide) ?_
  refine run_ok 2 (c' := (28, [(0, .ref 0), (1, .int (nI 2)), (2, .int (nI f)), (3, .int x)], [.int x, .int (nI f), .ref 42], S)) rfl ?_
  refine x_callV [.int (nI f), .int x] rfl cv_H_findingAt.1 lk_6_255 cv_H_findingAt.2.1 cv_H_findingAt.2.2.1 rfl cv_H_findingAt.2.2.2.1 rfl rfl (Nat.le_of_ble_eq_true rfl) (by decide) cv_H_findingAt.2.2.2.2 (c_findingAt2 S lo fm sz hH f x hf3) ?_
  rintro r x ⟨hr, hu⟩
  rw [hr, hu]
  clear hr hu r x
  refine run_ok 2 (c' := (35, [(0, .ref 0), (1, .int (nI 2)), (2, .int (nI f)), (3, .int x), (4, .int (nI (fnd lo fm sz f x)))], [.int (nI (fnd lo fm sz f x))], S)) rfl ?_
  refine x_ifN_eq 48 rfl rfl (by omega) (fun hn => absurd hn hfn) (fun h35 => ?_)
  refine run_ok 4 (c' := (47, [(0, .ref 0), (1, .int (nI 2)), (2, .int (nI f)), (3, .int x), (4, .int (nI (fnd lo fm sz f x)))], [.int (-2147483648)], (pt S 0 10 (nI (fnd lo fm sz f x))))) rfl ?_
  exact x_ret (r := some (.int (-2147483648))) rfl rfl trivial ⟨rfl, rfl⟩ rfl

set_option maxHeartbeats 2000000 in
theorem c_get_ok2 (S : ST) (lo fm sz : Nat) (hH : HR 42 lo fm sz S) (f i : Nat) (hf3 : f < 3) (hi : i < 60) (hfn : fnd lo fm sz f (nI i) = 0) : EX me_N_get 2 [.ref 0, .int (nI 2), .int (nI f), .int (nI i)] S (fun r u => r = some (.int (S.1 43 i)) ∧ u = S) := by
  refine EX.of mok_N_get (Nat.le_of_ble_eq_true rfl) ?_
  obtain ⟨g3, g1, g2, hl1, hf2, hs60⟩ := id hH
  have q1 := fnd_le lo fm sz f (nI i)
  refine run_ok 2 (c' := (2, [(0, .ref 0), (1, .int (nI 2)), (2, .int (nI f)), (3, .int (nI i))], [.int (nI 4), .int (nI 2)], S)) rfl ?_
  refine x_callS [.int (nI 2), .int (nI 4)] rfl cs_N_isBelow.1 lk_6_73 cs_N_isBelow.2.1 rfl rfl (Nat.le_of_ble_eq_true rfl) (by decide) cs_N_isBelow.2.2 (c_isBelow S (nI 2) (nI 4)) ?_
  rintro r u ⟨hr, hu⟩
  rw [hr, hu]
  clear hr hu r u
  refine x_ifB_eq 16 rfl rfl (fun hn => absurd hn (fun z => z (inr_t (by decide) (by decide)))) (fun h5 => ?_)
  refine run_ok 2 (c' := (10, [(0, .ref 0), (1, .int (nI 2)), (2, .int (nI f)), (3, .int (nI i))], [.int (nI 3), .int (nI f)], S)) rfl ?_
  refine x_callS [.int (nI f), .int (nI 3)] rfl cs_N_isBelow.1 lk_6_73 cs_N_isBelow.2.1 rfl rfl (Nat.le_of_ble_eq_true rfl) (by decide) cs_N_isBelow.2.2 (c_isBelow S (nI f) (nI 3)) ?_
  rintro r u ⟨hr, hu⟩
  rw [hr, hu]
  clear hr hu r u
  refine x_ifB_ne 20 rfl rfl (fun h13 => ?_) (fun hn => absurd (inr_t hf3 (by decide)) hn)
  refine run_ok 3 (c' := (25, [(0, .ref 0), (1, .int (nI 2)), (2, .int (nI f)), (3, .int (nI i))], [.int (nI 2), .ref 37], S)) rfl ?_
  refine x_aald (t := 42) rfl rfl (vp_in_nI (by decide) (by decide)) (by decide) ?_
  refine run_ok 2 (c' := (28, [(0, .ref 0), (1, .int (nI 2)), (2, .int (nI f)), (3, .int (nI i))], [.int (nI i), .int (nI f), .ref 42], S)) rfl ?_
  refine x_callV [.int (nI f), .int (nI i)] rfl cv_H_findingAt.1 lk_6_255 cv_H_findingAt.2.1 cv_H_findingAt.2.2.1 rfl cv_H_findingAt.2.2.2.1 rfl rfl (Nat.le_of_ble_eq_true rfl) (by decide) cv_H_findingAt.2.2.2.2 (c_findingAt2 S lo fm sz hH f (nI i) hf3) ?_
  rintro r x ⟨hr, hu⟩
  rw [hr, hu]
  clear hr hu r x
  refine run_ok 2 (c' := (35, [(0, .ref 0), (1, .int (nI 2)), (2, .int (nI f)), (3, .int (nI i)), (4, .int (nI (fnd lo fm sz f (nI i))))], [.int (nI (fnd lo fm sz f (nI i)))], S)) rfl ?_
  refine x_ifN_eq 48 rfl rfl (by omega) (fun h35 => ?_) (fun hn => absurd hfn hn)
  refine run_ok 3 (c' := (53, [(0, .ref 0), (1, .int (nI 2)), (2, .int (nI f)), (3, .int (nI i)), (4, .int (nI (fnd lo fm sz f (nI i))))], [.int (nI 2), .ref 37], S)) rfl ?_
  refine x_aald (t := 42) rfl rfl (vp_in_nI (by decide) (by decide)) (by decide) ?_
  refine run_ok 2 (c' := (58, [(0, .ref 0), (1, .int (nI 2)), (2, .int (nI f)), (3, .int (nI i)), (4, .int (nI (fnd lo fm sz f (nI i))))], [.int (nI i), .ref 43], S)) rfl ?_
  refine x_iaN (S.1 43 i) rfl rfl (by decide) (by omega) rfl ?_
  exact x_ret (r := some (.int (S.1 43 i))) rfl rfl trivial ⟨rfl, rfl⟩ rfl

set_option maxHeartbeats 2000000 in
theorem c_sheet_ok3 (S : ST) (f n : Nat) (hf3 : f < 3) (hn60 : n ≤ 60) : EX me_N_sheet 2 [.ref 0, .int (nI 3), .int (nI f), .int (nI n)] S (fun r u => r = some (.int (nI n)) ∧ (∀ j, j < 60 → u.1 45 j = nI 0) ∧ u.1 44 1 = nI f ∧ u.1 44 2 = nI n ∧ u.1 44 3 = nI 0 ∧ fr [44, 45] S u ∧ u.2 = S.2) := by
  refine EX.of mok_N_sheet (Nat.le_of_ble_eq_true rfl) ?_
  refine run_ok 2 (c' := (2, [(0, .ref 0), (1, .int (nI 3)), (2, .int (nI f)), (3, .int (nI n))], [.int (nI 4), .int (nI 3)], S)) rfl ?_
  refine x_callS [.int (nI 3), .int (nI 4)] rfl cs_N_isBelow.1 lk_6_73 cs_N_isBelow.2.1 rfl rfl (Nat.le_of_ble_eq_true rfl) (by decide) cs_N_isBelow.2.2 (c_isBelow S (nI 3) (nI 4)) ?_
  rintro r u ⟨hr, hu⟩
  rw [hr, hu]
  clear hr hu r u
  refine x_ifB_eq 22 rfl rfl (fun hn => absurd hn (fun z => z (inr_t (by decide) (by decide)))) (fun h5 => ?_)
  refine run_ok 2 (c' := (10, [(0, .ref 0), (1, .int (nI 3)), (2, .int (nI f)), (3, .int (nI n))], [.int (nI 3), .int (nI f)], S)) rfl ?_
  refine x_callS [.int (nI f), .int (nI 3)] rfl cs_N_isBelow.1 lk_6_73 cs_N_isBelow.2.1 rfl rfl (Nat.le_of_ble_eq_true rfl) (by decide) cs_N_isBelow.2.2 (c_isBelow S (nI f) (nI 3)) ?_
  rintro r u ⟨hr, hu⟩
  rw [hr, hu]
  clear hr hu r u
  refine x_ifB_eq 22 rfl rfl (fun hn => absurd hn (fun z => z (inr_t hf3 (by decide)))) (fun h13 => ?_)
  refine run_ok 2 (c' := (19, [(0, .ref 0), (1, .int (nI 3)), (2, .int (nI f)), (3, .int (nI n))], [.int (nI 60), .int (nI n)], S)) rfl ?_
  refine x_icmpN_le 25 rfl rfl (by omega) (by omega) (fun h19 => ?_) (fun hn => absurd hn60 hn)
  refine run_ok 1 (c' := (26, [(0, .ref 0), (1, .int (nI 3)), (2, .int (nI f)), (3, .int (nI n))], [.int (nI n)], S)) rfl ?_
  refine x_ifN_ge 35 rfl rfl (by omega) (fun h26 => ?_) (fun hn => absurd (Nat.zero_le _) hn)
  refine run_ok 3 (c' := (40, [(0, .ref 0), (1, .int (nI 3)), (2, .int (nI f)), (3, .int (nI n))], [.int (nI 3), .ref 37], S)) rfl ?_
  refine x_aald (t := 44) rfl rfl (vp_in_nI (by decide) (by decide)) (by decide) ?_
  refine run_ok 2 (c' := (43, [(0, .ref 0), (1, .int (nI 3)), (2, .int (nI f)), (3, .int (nI n))], [.int (nI n), .int (nI f), .ref 44], S)) rfl ?_
  refine x_callV [.int (nI f), .int (nI n)] rfl cv_H_renew.1 lk_6_252 cv_H_renew.2.1 cv_H_renew.2.2.1 rfl cv_H_renew.2.2.2.1 rfl rfl (Nat.le_of_ble_eq_true rfl) (by decide) cv_H_renew.2.2.2.2 (c_renew3 S f n) ?_
  rintro r u ⟨hr, hz⟩
  rw [hr]
  clear hr r
  refine run_ok 1 (c' := (47, [(0, .ref 0), (1, .int (nI 3)), (2, .int (nI f)), (3, .int (nI n))], [.int (nI n)], u)) rfl ?_
  exact x_ret (r := some (.int (nI n))) rfl rfl trivial ⟨rfl, hz⟩ rfl

set_option maxHeartbeats 2000000 in
theorem c_sheet_neg3 (S : ST) (f : Nat) (z : Int32) (hf3 : f < 3) (hneg : z < 0) : EX me_N_sheet 2 [.ref 0, .int (nI 3), .int (nI f), .int z] S (fun r u => r = some (.int ((-10) - nI 5)) ∧ u = pt S 0 10 (nI 5)) := by
  refine EX.of mok_N_sheet (Nat.le_of_ble_eq_true rfl) ?_
  have hz : z ≤ nI 60 := Int32.le_of_lt (Int32.lt_trans hneg (by decide))
  refine run_ok 2 (c' := (2, [(0, .ref 0), (1, .int (nI 3)), (2, .int (nI f)), (3, .int z)], [.int (nI 4), .int (nI 3)], S)) rfl ?_
  refine x_callS [.int (nI 3), .int (nI 4)] rfl cs_N_isBelow.1 lk_6_73 cs_N_isBelow.2.1 rfl rfl (Nat.le_of_ble_eq_true rfl) (by decide) cs_N_isBelow.2.2 (c_isBelow S (nI 3) (nI 4)) ?_
  rintro r u ⟨hr, hu⟩
  rw [hr, hu]
  clear hr hu r u
  refine x_ifB_eq 22 rfl rfl (fun hn => absurd hn (fun z => z (inr_t (by decide) (by decide)))) (fun h5 => ?_)
  refine run_ok 2 (c' := (10, [(0, .ref 0), (1, .int (nI 3)), (2, .int (nI f)), (3, .int z)], [.int (nI 3), .int (nI f)], S)) rfl ?_
  refine x_callS [.int (nI f), .int (nI 3)] rfl cs_N_isBelow.1 lk_6_73 cs_N_isBelow.2.1 rfl rfl (Nat.le_of_ble_eq_true rfl) (by decide) cs_N_isBelow.2.2 (c_isBelow S (nI f) (nI 3)) ?_
  rintro r u ⟨hr, hu⟩
  rw [hr, hu]
  clear hr hu r u
  refine x_ifB_eq 22 rfl rfl (fun hn => absurd hn (fun z => z (inr_t hf3 (by decide)))) (fun h13 => ?_)
  refine run_ok 2 (c' := (19, [(0, .ref 0), (1, .int (nI 3)), (2, .int (nI f)), (3, .int z)], [.int (nI 60), .int z], S)) rfl ?_
  refine x_icmp_le 25 rfl rfl (fun h19 => ?_) (fun hn => absurd hz hn)
  refine run_ok 1 (c' := (26, [(0, .ref 0), (1, .int (nI 3)), (2, .int (nI f)), (3, .int z)], [.int z], S)) rfl ?_
  refine x_if_ge 35 rfl rfl (fun hn => absurd hn (fun z => absurd hneg (Int32.not_lt.mpr z))) (fun h26 => ?_)
  refine run_ok 2 (c' := (31, [(0, .ref 0), (1, .int (nI 3)), (2, .int (nI f)), (3, .int z)], [.int (nI 5), .ref 0], S)) rfl ?_
  refine x_callV [.int (nI 5)] rfl cv_N_find.1 lk_6_134 cv_N_find.2.1 cv_N_find.2.2.1 rfl cv_N_find.2.2.2.1 rfl rfl (Nat.le_of_ble_eq_true rfl) (by decide) cv_N_find.2.2.2.2 (c_find S (5)) ?_
  rintro r x ⟨hr, hu⟩
  rw [hr, hu]
  clear hr hu r x
  exact x_ret (r := some (.int ((-10) - nI 5))) rfl rfl trivial ⟨rfl, rfl⟩ rfl

set_option maxHeartbeats 2000000 in
theorem c_lose_null3 (S : ST) (lo fm sz : Nat) (hH : HR 44 lo fm sz S) (hlo : lo = 1) : EX me_N_lose 2 [.ref 0, .int (nI 3)] S (fun r u => r = some (.int ((-10) - nI 1)) ∧ u = pt S 0 10 (nI 1)) := by
  refine EX.of mok_N_lose (Nat.le_of_ble_eq_true rfl) ?_
  obtain ⟨g3, g1, g2, hl1, hf2, hs60⟩ := id hH
  refine run_ok 2 (c' := (2, [(0, .ref 0), (1, .int (nI 3))], [.int (nI 4), .int (nI 3)], S)) rfl ?_
  refine x_callS [.int (nI 3), .int (nI 4)] rfl cs_N_isBelow.1 lk_6_73 cs_N_isBelow.2.1 rfl rfl (Nat.le_of_ble_eq_true rfl) (by decide) cs_N_isBelow.2.2 (c_isBelow S (nI 3) (nI 4)) ?_
  rintro r u ⟨hr, hu⟩
  rw [hr, hu]
  clear hr hu r u
  refine x_ifB_ne 11 rfl rfl (fun h5 => ?_) (fun hn => absurd (inr_t (by decide) (by decide)) hn)
  refine run_ok 3 (c' := (16, [(0, .ref 0), (1, .int (nI 3))], [.int (nI 3), .ref 37], S)) rfl ?_
  refine x_aald (t := 44) rfl rfl (vp_in_nI (by decide) (by decide)) (by decide) ?_
  refine run_ok 3 (c' := (22, [(0, .ref 0), (1, .int (nI 3)), (2, .ref 44)], [.int (S.1 44 3)], S)) rfl ?_
  refine x_top (v' := nI lo) g3 ?_
  refine x_ifN_eq 31 rfl rfl (by omega) (fun hn => absurd hn (by omega)) (fun h22 => ?_)
  refine run_ok 2 (c' := (27, [(0, .ref 0), (1, .int (nI 3)), (2, .ref 44)], [.int (nI 1), .ref 0], S)) rfl ?_
  refine x_callV [.int (nI 1)] rfl cv_N_find.1 lk_6_134 cv_N_find.2.1 cv_N_find.2.2.1 rfl cv_N_find.2.2.2.1 rfl rfl (Nat.le_of_ble_eq_true rfl) (by decide) cv_N_find.2.2.2.2 (c_find S (1)) ?_
  rintro r x ⟨hr, hu⟩
  rw [hr, hu]
  clear hr hu r x
  exact x_ret (r := some (.int ((-10) - nI 1))) rfl rfl trivial ⟨rfl, rfl⟩ rfl

set_option maxHeartbeats 2000000 in
theorem c_lose_ok3 (S : ST) (lo fm sz : Nat) (hH : HR 44 lo fm sz S) (hlo : lo = 0) : EX me_N_lose 2 [.ref 0, .int (nI 3)] S (fun r u => r = some (.int (nI sz)) ∧ u = pt S 44 3 (nI 1)) := by
  refine EX.of mok_N_lose (Nat.le_of_ble_eq_true rfl) ?_
  obtain ⟨g3, g1, g2, hl1, hf2, hs60⟩ := id hH
  refine run_ok 2 (c' := (2, [(0, .ref 0), (1, .int (nI 3))], [.int (nI 4), .int (nI 3)], S)) rfl ?_
  refine x_callS [.int (nI 3), .int (nI 4)] rfl cs_N_isBelow.1 lk_6_73 cs_N_isBelow.2.1 rfl rfl (Nat.le_of_ble_eq_true rfl) (by decide) cs_N_isBelow.2.2 (c_isBelow S (nI 3) (nI 4)) ?_
  rintro r u ⟨hr, hu⟩
  rw [hr, hu]
  clear hr hu r u
  refine x_ifB_ne 11 rfl rfl (fun h5 => ?_) (fun hn => absurd (inr_t (by decide) (by decide)) hn)
  refine run_ok 3 (c' := (16, [(0, .ref 0), (1, .int (nI 3))], [.int (nI 3), .ref 37], S)) rfl ?_
  refine x_aald (t := 44) rfl rfl (vp_in_nI (by decide) (by decide)) (by decide) ?_
  refine run_ok 3 (c' := (22, [(0, .ref 0), (1, .int (nI 3)), (2, .ref 44)], [.int (S.1 44 3)], S)) rfl ?_
  refine x_top (v' := nI lo) g3 ?_
  refine x_ifN_eq 31 rfl rfl (by omega) (fun h22 => ?_) (fun hn => absurd hlo hn)
  refine run_ok 5 (c' := (40, [(0, .ref 0), (1, .int (nI 3)), (2, .ref 44)], [.int (S.1 44 2)], (pt S 44 3 (nI 1)))) rfl ?_
  refine x_top (v' := nI sz) g2 ?_
  exact x_ret (r := some (.int (nI sz))) rfl rfl trivial ⟨rfl, rfl⟩ rfl

set_option maxHeartbeats 2000000 in
theorem c_put_f3 (S : ST) (lo fm sz : Nat) (hH : HR 44 lo fm sz S) (f : Nat) (x v : Int32) (hf3 : f < 3) (hfn : ¬ fnd lo fm sz f x = 0) : EX me_N_put 2 [.ref 0, .int (nI 3), .int (nI f), .int x, .int v] S (fun r u => r = some (.int ((-10) - nI (fnd lo fm sz f x))) ∧ u = pt S 0 10 (nI (fnd lo fm sz f x))) := by
  refine EX.of mok_N_put (Nat.le_of_ble_eq_true rfl) ?_
  obtain ⟨g3, g1, g2, hl1, hf2, hs60⟩ := id hH
  have q1 := fnd_le lo fm sz f x
  refine run_ok 2 (c' := (2, [(0, .ref 0), (1, .int (nI 3)), (2, .int (nI f)), (3, .int x), (4, .int v)], [.int (nI 4), .int (nI 3)], S)) rfl ?_
  refine x_callS [.int (nI 3), .int (nI 4)] rfl cs_N_isBelow.1 lk_6_73 cs_N_isBelow.2.1 rfl rfl (Nat.le_of_ble_eq_true rfl) (by decide) cs_N_isBelow.2.2 (c_isBelow S (nI 3) (nI 4)) ?_
  rintro r u ⟨hr, hu⟩
  rw [hr, hu]
  clear hr hu r u
  refine x_ifB_eq 16 rfl rfl (fun hn => absurd hn (fun z => z (inr_t (by decide) (by decide)))) (fun h5 => ?_)
  refine run_ok 2 (c' := (10, [(0, .ref 0), (1, .int (nI 3)), (2, .int (nI f)), (3, .int x), (4, .int v)], [.int (nI 3), .int (nI f)], S)) rfl ?_
  refine x_callS [.int (nI f), .int (nI 3)] rfl cs_N_isBelow.1 lk_6_73 cs_N_isBelow.2.1 rfl rfl (Nat.le_of_ble_eq_true rfl) (by decide) cs_N_isBelow.2.2 (c_isBelow S (nI f) (nI 3)) ?_
  rintro r u ⟨hr, hu⟩
  rw [hr, hu]
  clear hr hu r u
  refine x_ifB_ne 19 rfl rfl (fun h13 => ?_) (fun hn => absurd (inr_t hf3 (by decide)) hn)
  refine run_ok 3 (c' := (24, [(0, .ref 0), (1, .int (nI 3)), (2, .int (nI f)), (3, .int x), (4, .int v)], [.int (nI 3), .ref 37], S)) rfl ?_
  refine x_aald (t := 44) rfl rfl (vp_in_nI (by decide) (by decide)) (by decide) ?_
  refine run_ok 2 (c' := (27, [(0, .ref 0), (1, .int (nI 3)), (2, .int (nI f)), (3, .int x), (4, .int v)], [.int x, .int (nI f), .ref 44], S)) rfl ?_
  refine x_callV [.int (nI f), .int x] rfl cv_H_findingAt.1 lk_6_255 cv_H_findingAt.2.1 cv_H_findingAt.2.2.1 rfl cv_H_findingAt.2.2.2.1 rfl rfl (Nat.le_of_ble_eq_true rfl) (by decide) cv_H_findingAt.2.2.2.2 (c_findingAt3 S lo fm sz hH f x hf3) ?_
  rintro r x ⟨hr, hu⟩
  rw [hr, hu]
  clear hr hu r x
  refine run_ok 2 (c' := (34, [(0, .ref 0), (1, .int (nI 3)), (2, .int (nI f)), (3, .int x), (4, .int v), (5, .int (nI (fnd lo fm sz f x)))], [.int (nI (fnd lo fm sz f x))], S)) rfl ?_
  refine x_ifN_eq 44 rfl rfl (by omega) (fun hn => absurd hn hfn) (fun h34 => ?_)
  refine run_ok 2 (c' := (40, [(0, .ref 0), (1, .int (nI 3)), (2, .int (nI f)), (3, .int x), (4, .int v), (5, .int (nI (fnd lo fm sz f x)))], [.int (nI (fnd lo fm sz f x)), .ref 0], S)) rfl ?_
  refine x_callV [.int (nI (fnd lo fm sz f x))] rfl cv_N_find.1 lk_6_134 cv_N_find.2.1 cv_N_find.2.2.1 rfl cv_N_find.2.2.2.1 rfl rfl (Nat.le_of_ble_eq_true rfl) (by decide) cv_N_find.2.2.2.2 (c_find S (fnd lo fm sz f x)) ?_
  rintro r x ⟨hr, hu⟩
  rw [hr, hu]
  clear hr hu r x
  exact x_ret (r := some (.int ((-10) - nI (fnd lo fm sz f x)))) rfl rfl trivial ⟨rfl, rfl⟩ rfl

set_option maxHeartbeats 2000000 in
theorem c_put_ok3 (S : ST) (lo fm sz : Nat) (hH : HR 44 lo fm sz S) (f i : Nat) (v : Int32) (hf3 : f < 3) (hi : i < 60) (hfn : fnd lo fm sz f (nI i) = 0) : EX me_N_put 2 [.ref 0, .int (nI 3), .int (nI f), .int (nI i), .int v] S (fun r u => r = some (.int 1) ∧ u = pt S 45 i (cvt fm v)) := by
  refine EX.of mok_N_put (Nat.le_of_ble_eq_true rfl) ?_
  obtain ⟨g3, g1, g2, hl1, hf2, hs60⟩ := id hH
  have q1 := fnd_le lo fm sz f (nI i)
  refine run_ok 2 (c' := (2, [(0, .ref 0), (1, .int (nI 3)), (2, .int (nI f)), (3, .int (nI i)), (4, .int v)], [.int (nI 4), .int (nI 3)], S)) rfl ?_
  refine x_callS [.int (nI 3), .int (nI 4)] rfl cs_N_isBelow.1 lk_6_73 cs_N_isBelow.2.1 rfl rfl (Nat.le_of_ble_eq_true rfl) (by decide) cs_N_isBelow.2.2 (c_isBelow S (nI 3) (nI 4)) ?_
  rintro r u ⟨hr, hu⟩
  rw [hr, hu]
  clear hr hu r u
  refine x_ifB_eq 16 rfl rfl (fun hn => absurd hn (fun z => z (inr_t (by decide) (by decide)))) (fun h5 => ?_)
  refine run_ok 2 (c' := (10, [(0, .ref 0), (1, .int (nI 3)), (2, .int (nI f)), (3, .int (nI i)), (4, .int v)], [.int (nI 3), .int (nI f)], S)) rfl ?_
  refine x_callS [.int (nI f), .int (nI 3)] rfl cs_N_isBelow.1 lk_6_73 cs_N_isBelow.2.1 rfl rfl (Nat.le_of_ble_eq_true rfl) (by decide) cs_N_isBelow.2.2 (c_isBelow S (nI f) (nI 3)) ?_
  rintro r u ⟨hr, hu⟩
  rw [hr, hu]
  clear hr hu r u
  refine x_ifB_ne 19 rfl rfl (fun h13 => ?_) (fun hn => absurd (inr_t hf3 (by decide)) hn)
  refine run_ok 3 (c' := (24, [(0, .ref 0), (1, .int (nI 3)), (2, .int (nI f)), (3, .int (nI i)), (4, .int v)], [.int (nI 3), .ref 37], S)) rfl ?_
  refine x_aald (t := 44) rfl rfl (vp_in_nI (by decide) (by decide)) (by decide) ?_
  refine run_ok 2 (c' := (27, [(0, .ref 0), (1, .int (nI 3)), (2, .int (nI f)), (3, .int (nI i)), (4, .int v)], [.int (nI i), .int (nI f), .ref 44], S)) rfl ?_
  refine x_callV [.int (nI f), .int (nI i)] rfl cv_H_findingAt.1 lk_6_255 cv_H_findingAt.2.1 cv_H_findingAt.2.2.1 rfl cv_H_findingAt.2.2.2.1 rfl rfl (Nat.le_of_ble_eq_true rfl) (by decide) cv_H_findingAt.2.2.2.2 (c_findingAt3 S lo fm sz hH f (nI i) hf3) ?_
  rintro r x ⟨hr, hu⟩
  rw [hr, hu]
  clear hr hu r x
  refine run_ok 2 (c' := (34, [(0, .ref 0), (1, .int (nI 3)), (2, .int (nI f)), (3, .int (nI i)), (4, .int v), (5, .int (nI (fnd lo fm sz f (nI i))))], [.int (nI (fnd lo fm sz f (nI i)))], S)) rfl ?_
  refine x_ifN_eq 44 rfl rfl (by omega) (fun h34 => ?_) (fun hn => absurd hfn hn)
  refine run_ok 3 (c' := (49, [(0, .ref 0), (1, .int (nI 3)), (2, .int (nI f)), (3, .int (nI i)), (4, .int v), (5, .int (nI (fnd lo fm sz f (nI i))))], [.int (nI 3), .ref 37], S)) rfl ?_
  refine x_aald (t := 44) rfl rfl (vp_in_nI (by decide) (by decide)) (by decide) ?_
  refine run_ok 2 (c' := (53, [(0, .ref 0), (1, .int (nI 3)), (2, .int (nI f)), (3, .int (nI i)), (4, .int v), (5, .int (nI (fnd lo fm sz f (nI i))))], [.int v, .int (nI i), .ref 44], S)) rfl ?_
  refine x_callV [.int (nI i), .int v] rfl cv_H_set.1 lk_6_258 cv_H_set.2.1 cv_H_set.2.2.1 rfl cv_H_set.2.2.2.1 rfl rfl (Nat.le_of_ble_eq_true rfl) (by decide) cv_H_set.2.2.2.2 (c_set3 S lo fm sz hH i v (by omega)) ?_
  rintro r x ⟨hr, hu⟩
  rw [hr, hu]
  clear hr hu r x
  refine run_ok 1 (c' := (57, [(0, .ref 0), (1, .int (nI 3)), (2, .int (nI f)), (3, .int (nI i)), (4, .int v), (5, .int (nI (fnd lo fm sz f (nI i))))], [.int (nI 1)], (pt S 45 i (cvt fm v)))) rfl ?_
  exact x_ret (r := some (.int (nI 1))) rfl rfl trivial ⟨rfl, rfl⟩ rfl

set_option maxHeartbeats 2000000 in
theorem c_get_f3 (S : ST) (lo fm sz : Nat) (hH : HR 44 lo fm sz S) (f : Nat) (x : Int32) (hf3 : f < 3) (hfn : ¬ fnd lo fm sz f x = 0) : EX me_N_get 2 [.ref 0, .int (nI 3), .int (nI f), .int x] S (fun r u => r = some (.int (-2147483648)) ∧ u = pt S 0 10 (nI (fnd lo fm sz f x))) := by
  refine EX.of mok_N_get (Nat.le_of_ble_eq_true rfl) ?_
  obtain ⟨g3, g1, g2, hl1, hf2, hs60⟩ := id hH
  have q1 := fnd_le lo fm sz f x
  refine run_ok 2 (c' := (2, [(0, .ref 0), (1, .int (nI 3)), (2, .int (nI f)), (3, .int x)], [.int (nI 4), .int (nI 3)], S)) rfl ?_
  refine x_callS [.int (nI 3), .int (nI 4)] rfl cs_N_isBelow.1 lk_6_73 cs_N_isBelow.2.1 rfl rfl (Nat.le_of_ble_eq_true rfl) (by decide) cs_N_isBelow.2.2 (c_isBelow S (nI 3) (nI 4)) ?_
  rintro r u ⟨hr, hu⟩
  rw [hr, hu]
  clear hr hu r u
  refine x_ifB_eq 16 rfl rfl (fun hn => absurd hn (fun z => z (inr_t (by decide) (by decide)))) (fun h5 => ?_)
  refine run_ok 2 (c' := (10, [(0, .ref 0), (1, .int (nI 3)), (2, .int (nI f)), (3, .int x)], [.int (nI 3), .int (nI f)], S)) rfl ?_
  refine x_callS [.int (nI f), .int (nI 3)] rfl cs_N_isBelow.1 lk_6_73 cs_N_isBelow.2.1 rfl rfl (Nat.le_of_ble_eq_true rfl) (by decide) cs_N_isBelow.2.2 (c_isBelow S (nI f) (nI 3)) ?_
  rintro r u ⟨hr, hu⟩
  rw [hr, hu]
  clear hr hu r u
  refine x_ifB_ne 20 rfl rfl (fun h13 => ?_) (fun hn => absurd (inr_t hf3 (by decide)) hn)
  refine run_ok 3 (c' := (25, [(0, .ref 0), (1, .int (nI 3)), (2, .int (nI f)), (3, .int x)], [.int (nI 3), .ref 37], S)) rfl ?_
  refine x_aald (t := 44) rfl rfl (vp_in_nI (by decide) (by decide)) (by decide) ?_
  refine run_ok 2 (c' := (28, [(0, .ref 0), (1, .int (nI 3)), (2, .int (nI f)), (3, .int x)], [.int x, .int (nI f), .ref 44], S)) rfl ?_
  refine x_callV [.int (nI f), .int x] rfl cv_H_findingAt.1 lk_6_255 cv_H_findingAt.2.1 cv_H_findingAt.2.2.1 rfl cv_H_findingAt.2.2.2.1 rfl rfl (Nat.le_of_ble_eq_true rfl) (by decide) cv_H_findingAt.2.2.2.2 (c_findingAt3 S lo fm sz hH f x hf3) ?_
  rintro r x ⟨hr, hu⟩
  rw [hr, hu]
  clear hr hu r x
  refine run_ok 2 (c' := (35, [(0, .ref 0), (1, .int (nI 3)), (2, .int (nI f)), (3, .int x), (4, .int (nI (fnd lo fm sz f x)))], [.int (nI (fnd lo fm sz f x))], S)) rfl ?_
  refine x_ifN_eq 48 rfl rfl (by omega) (fun hn => absurd hn hfn) (fun h35 => ?_)
  refine run_ok 4 (c' := (47, [(0, .ref 0), (1, .int (nI 3)), (2, .int (nI f)), (3, .int x), (4, .int (nI (fnd lo fm sz f x)))], [.int (-2147483648)], (pt S 0 10 (nI (fnd lo fm sz f x))))) rfl ?_
  exact x_ret (r := some (.int (-2147483648))) rfl rfl trivial ⟨rfl, rfl⟩ rfl

set_option maxHeartbeats 2000000 in
theorem c_get_ok3 (S : ST) (lo fm sz : Nat) (hH : HR 44 lo fm sz S) (f i : Nat) (hf3 : f < 3) (hi : i < 60) (hfn : fnd lo fm sz f (nI i) = 0) : EX me_N_get 2 [.ref 0, .int (nI 3), .int (nI f), .int (nI i)] S (fun r u => r = some (.int (S.1 45 i)) ∧ u = S) := by
  refine EX.of mok_N_get (Nat.le_of_ble_eq_true rfl) ?_
  obtain ⟨g3, g1, g2, hl1, hf2, hs60⟩ := id hH
  have q1 := fnd_le lo fm sz f (nI i)
  refine run_ok 2 (c' := (2, [(0, .ref 0), (1, .int (nI 3)), (2, .int (nI f)), (3, .int (nI i))], [.int (nI 4), .int (nI 3)], S)) rfl ?_
  refine x_callS [.int (nI 3), .int (nI 4)] rfl cs_N_isBelow.1 lk_6_73 cs_N_isBelow.2.1 rfl rfl (Nat.le_of_ble_eq_true rfl) (by decide) cs_N_isBelow.2.2 (c_isBelow S (nI 3) (nI 4)) ?_
  rintro r u ⟨hr, hu⟩
  rw [hr, hu]
  clear hr hu r u
  refine x_ifB_eq 16 rfl rfl (fun hn => absurd hn (fun z => z (inr_t (by decide) (by decide)))) (fun h5 => ?_)
  refine run_ok 2 (c' := (10, [(0, .ref 0), (1, .int (nI 3)), (2, .int (nI f)), (3, .int (nI i))], [.int (nI 3), .int (nI f)], S)) rfl ?_
  refine x_callS [.int (nI f), .int (nI 3)] rfl cs_N_isBelow.1 lk_6_73 cs_N_isBelow.2.1 rfl rfl (Nat.le_of_ble_eq_true rfl) (by decide) cs_N_isBelow.2.2 (c_isBelow S (nI f) (nI 3)) ?_
  rintro r u ⟨hr, hu⟩
  rw [hr, hu]
  clear hr hu r u
  refine x_ifB_ne 20 rfl rfl (fun h13 => ?_) (fun hn => absurd (inr_t hf3 (by decide)) hn)
  refine run_ok 3 (c' := (25, [(0, .ref 0), (1, .int (nI 3)), (2, .int (nI f)), (3, .int (nI i))], [.int (nI 3), .ref 37], S)) rfl ?_
  refine x_aald (t := 44) rfl rfl (vp_in_nI (by decide) (by decide)) (by decide) ?_
  refine run_ok 2 (c' := (28, [(0, .ref 0), (1, .int (nI 3)), (2, .int (nI f)), (3, .int (nI i))], [.int (nI i), .int (nI f), .ref 44], S)) rfl ?_
  refine x_callV [.int (nI f), .int (nI i)] rfl cv_H_findingAt.1 lk_6_255 cv_H_findingAt.2.1 cv_H_findingAt.2.2.1 rfl cv_H_findingAt.2.2.2.1 rfl rfl (Nat.le_of_ble_eq_true rfl) (by decide) cv_H_findingAt.2.2.2.2 (c_findingAt3 S lo fm sz hH f (nI i) hf3) ?_
  rintro r x ⟨hr, hu⟩
  rw [hr, hu]
  clear hr hu r x
  refine run_ok 2 (c' := (35, [(0, .ref 0), (1, .int (nI 3)), (2, .int (nI f)), (3, .int (nI i)), (4, .int (nI (fnd lo fm sz f (nI i))))], [.int (nI (fnd lo fm sz f (nI i)))], S)) rfl ?_
  refine x_ifN_eq 48 rfl rfl (by omega) (fun h35 => ?_) (fun hn => absurd hfn hn)
  refine run_ok 3 (c' := (53, [(0, .ref 0), (1, .int (nI 3)), (2, .int (nI f)), (3, .int (nI i)), (4, .int (nI (fnd lo fm sz f (nI i))))], [.int (nI 3), .ref 37], S)) rfl ?_
  refine x_aald (t := 44) rfl rfl (vp_in_nI (by decide) (by decide)) (by decide) ?_
  refine run_ok 2 (c' := (58, [(0, .ref 0), (1, .int (nI 3)), (2, .int (nI f)), (3, .int (nI i)), (4, .int (nI (fnd lo fm sz f (nI i))))], [.int (nI i), .ref 45], S)) rfl ?_
  refine x_iaN (S.1 45 i) rfl rfl (by decide) (by omega) rfl ?_
  exact x_ret (r := some (.int (S.1 45 i))) rfl rfl trivial ⟨rfl, rfl⟩ rfl


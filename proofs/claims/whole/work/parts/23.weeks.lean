/-! public calls of the class: what is told, weeks -/
abbrev CQ : List Nat := [14, 15, 16, 17, 18, 19, 20, 21, 22, 23, 24, 25, 26, 27, 28, 29, 30, 31, 36, 47]
theorem inr_t {j n : Nat} (h : j < n) (hn : n < 2147483648) : 0 ≤ nI j ∧ nI j < nI n := ⟨nI_pos' (by omega), (nI_ltI (by omega) hn).mpr h⟩
theorem inr_f {x : Int32} {n : Nat} (hn : n < 2147483648) (h : 0 ≤ x ∧ x < nI n) : ∃ j : Nat, j < n ∧ x = nI j := by
  obtain ⟨j, hj, rfl⟩ := nI_of (x := x) (fun z => absurd h.1 (Int32.not_le.mpr z))
  exact ⟨j, (nI_ltI hj hn).mp h.2, rfl⟩
theorem two_t {p q : Nat} (hp : p < 8) (hq : q < 8) (h : p ≠ q) : (0 ≤ nI p ∧ nI p < nI 8) ∧ (0 ≤ nI q ∧ nI q < nI 8) ∧ ¬ nI p = nI q := ⟨inr_t hp (by decide), inr_t hq (by decide), fun z => h ((nI_eqI (by omega) (by omega)).mp z)⟩
theorem inr_o {x : Int32} {n : Nat} (hn : n < 2147483648) (h0 : 0 < n) (h : ¬ (0 ≤ x ∧ x < nI n)) : x.toInt < 0 ∨ ((n : Int) - 1) < x.toInt := by
  by_cases h1 : x < 0
  · left
    have := (Int32.lt_iff_toInt_lt).mp h1
    simpa using this
  · right
    have h2 : nI n ≤ x := Int32.not_lt.mp (fun z => h ⟨Int32.not_lt.mp h1, z⟩)
    have h3 := (Int32.le_iff_toInt_le).mp h2
    rw [nI_toInt (by omega)] at h3
    omega
theorem b2v {p : Prop} [Decidable p] (h : p) : some (Value.int (b2 p)) = some (Value.int 1) := by rw [b2_t h]
theorem c_isBoat (S : ST) (x : Int32) (nb : Nat) (h : S.1 5 6 = nI nb) : EX me_N_isBoat 1 [.ref 0, .int x] S (fun r u => r = some (.int (b2 (0 ≤ x ∧ x < nI nb))) ∧ u = S) := by
  refine EX.of mok_N_isBoat (Nat.le_of_ble_eq_true rfl) ?_
  refine run_ok 4 (c' := (8, [(0, .ref 0), (1, .int x)], [.int (S.1 5 6), .int x], S)) rfl ?_
  refine x_top (v' := nI nb) h ?_
  refine x_callS [.int x, .int (nI nb)] rfl cs_N_isBelow.1 lk_6_73 cs_N_isBelow.2.1 rfl rfl (Nat.le_of_ble_eq_true rfl) (by decide) cs_N_isBelow.2.2 (c_isBelow S (x) (nI nb)) ?_
  rintro r u ⟨hr, hu⟩
  rw [hr, hu]
  clear hr hu r u
  exact x_ret (r := some (.int (b2 (0 ≤ x ∧ x < nI nb)))) rfl rfl (b2_01 _) ⟨rfl, rfl⟩ rfl

set_option maxHeartbeats 2000000 in
theorem c_told_bad (S : ST) (x y : Int32) (hbad : ¬ ((0 ≤ x ∧ x < nI 8) ∧ (0 ≤ y ∧ y < nI 8) ∧ ¬ x = y)) : EX me_N_told 2 [.ref 0, .int x, .int y] S (fun r u => r = some (.int ((-2))) ∧ u = S) := by
  refine EX.of mok_N_told (Nat.le_of_ble_eq_true rfl) ?_
  refine run_ok 2 (c' := (2, [(0, .ref 0), (1, .int x), (2, .int y)], [.int y, .int x], S)) rfl ?_
  refine x_callS [.int x, .int y] rfl cs_N_areTwo.1 lk_6_97 cs_N_areTwo.2.1 rfl rfl (Nat.le_of_ble_eq_true rfl) (by decide) cs_N_areTwo.2.2 (c_areTwo S (x) (y)) ?_
  rintro r u ⟨hr, hu⟩
  rw [hr, hu]
  clear hr hu r u
  refine x_ifB_eq 24 rfl rfl (fun h5 => ?_) (fun h5 => ?_)
  · refine run_ok 1 (c' := (26, [(0, .ref 0), (1, .int x), (2, .int y)], [.int (-2)], S)) rfl ?_
    exact x_ret (r := some (.int (-2))) rfl rfl trivial ⟨rfl, rfl⟩ rfl
  · exact absurd h5 hbad

set_option maxHeartbeats 2000000 in
theorem c_told_ok (S : ST) (T : TD) (hT : TR 5 T S) (hto : tok T) (p q : Nat) (hp : p < 8) (hq : q < 8) (hpq : p ≠ q) : EX me_N_told 2 [.ref 0, .int (nI p), .int (nI q)] S (fun r u => r = some (.int (nI (th T (8 * p + q)))) ∧ u = S) := by
  refine EX.of mok_N_told (Nat.le_of_ble_eq_true rfl) ?_
  obtain ⟨n8, n9, hbt, het, hht, hlo⟩ := id hto
  obtain ⟨t1, t2, t3, t4, t5, t6, t7, t8, t9, t10, t11⟩ := id hT
  refine run_ok 2 (c' := (2, [(0, .ref 0), (1, .int (nI p)), (2, .int (nI q))], [.int (nI q), .int (nI p)], S)) rfl ?_
  refine x_callS [.int (nI p), .int (nI q)] rfl cs_N_areTwo.1 lk_6_97 cs_N_areTwo.2.1 rfl rfl (Nat.le_of_ble_eq_true rfl) (by decide) cs_N_areTwo.2.2 (c_areTwo S (nI p) (nI q)) ?_
  rintro r u ⟨hr, hu⟩
  rw [hr, hu]
  clear hr hu r u
  refine x_ifB_eq 24 rfl rfl (fun hn => absurd hn (fun z => z (two_t hp hq hpq))) (fun h5 => ?_)
  refine run_ok 5 (c' := (17, [(0, .ref 0), (1, .int (nI p)), (2, .int (nI q))], [.int (nI q), .int (nI p), .ref 6], S)) rfl ?_
  refine x_callS [.int (nI p), .int (nI q)] rfl cs_N_pair.1 lk_6_103 cs_N_pair.2.1 rfl rfl (Nat.le_of_ble_eq_true rfl) (by decide) cs_N_pair.2.2 (c_pair S (nI p) (nI q)) ?_
  rintro r u ⟨hr, hu⟩
  rw [hr, hu]
  clear hr hu r u
  refine x_top (v' := nI (p * 8 + q)) (by rw [pk_mul, nI_add]) ?_
  refine x_iaN (nI (th T (8 * p + q))) rfl rfl (by decide) (by omega) (by rw [show p * 8 + q = 8 * p + q by omega]; exact t1 _ (by omega)) ?_
  refine run_ok 1 (c' := (26, [(0, .ref 0), (1, .int (nI p)), (2, .int (nI q))], [.int (nI (th T (8 * p + q)))], S)) rfl ?_
  exact x_ret (r := some (.int (nI (th T (8 * p + q))))) rfl rfl trivial ⟨rfl, rfl⟩ rfl

set_option maxHeartbeats 2000000 in
theorem c_boat_bad (S : ST) (T : TD) (t9 : S.1 5 6 = nI (tnb T)) (x y : Int32) (hbad : ¬ ((0 ≤ x ∧ x < nI (tnb T)) ∧ (0 ≤ y ∧ y < nI 4))) : EX me_N_boat 2 [.ref 0, .int x, .int y] S (fun r u => r = some (.int ((-2))) ∧ u = S) := by
  refine EX.of mok_N_boat (Nat.le_of_ble_eq_true rfl) ?_
  refine run_ok 2 (c' := (2, [(0, .ref 0), (1, .int x), (2, .int y)], [.int x, .ref 0], S)) rfl ?_
  refine x_callV [.int x] rfl cv_N_isBoat.1 lk_6_107 cv_N_isBoat.2.1 cv_N_isBoat.2.2.1 rfl cv_N_isBoat.2.2.2.1 rfl rfl (Nat.le_of_ble_eq_true rfl) (by decide) cv_N_isBoat.2.2.2.2 (c_isBoat S (x) (tnb T) t9) ?_
  rintro r u ⟨hr, hu⟩
  rw [hr, hu]
  clear hr hu r u
  refine x_ifB_ne 11 rfl rfl (fun h5 => ?_) (fun h5 => ?_)
  · refine run_ok 1 (c' := (12, [(0, .ref 0), (1, .int x), (2, .int y)], [.int y], S)) rfl ?_
    refine x_tabOut 84 rfl (inr_o (n := 4) (by decide) (by decide) (fun z => hbad ⟨h5, z⟩)) rfl ?_
    refine run_ok 1 (c' := (86, [(0, .ref 0), (1, .int x), (2, .int y)], [.int (-2)], S)) rfl ?_
    exact x_ret (r := some (.int (-2))) rfl rfl trivial ⟨rfl, rfl⟩ rfl
  · refine run_ok 1 (c' := (10, [(0, .ref 0), (1, .int x), (2, .int y)], [.int (-2)], S)) rfl ?_
    exact x_ret (r := some (.int (-2))) rfl rfl trivial ⟨rfl, rfl⟩ rfl

set_option maxHeartbeats 2000000 in
theorem c_boat_ok0 (S : ST) (T : TD) (hT : TR 5 T S) (hto : tok T) (k : Nat) (hk : k < tnb T) : EX me_N_boat 2 [.ref 0, .int (nI k), .int (nI 0)] S (fun r u => r = some (.int (nI (tso T k))) ∧ u = S) := by
  refine EX.of mok_N_boat (Nat.le_of_ble_eq_true rfl) ?_
  obtain ⟨n8, n9, hbt, het, hht, hlo⟩ := id hto
  obtain ⟨t1, t2, t3, t4, t5, t6, t7, t8, t9, t10, t11⟩ := id hT
  refine run_ok 2 (c' := (2, [(0, .ref 0), (1, .int (nI k)), (2, .int (nI 0))], [.int (nI k), .ref 0], S)) rfl ?_
  refine x_callV [.int (nI k)] rfl cv_N_isBoat.1 lk_6_107 cv_N_isBoat.2.1 cv_N_isBoat.2.2.1 rfl cv_N_isBoat.2.2.2.1 rfl rfl (Nat.le_of_ble_eq_true rfl) (by decide) cv_N_isBoat.2.2.2.2 (c_isBoat S (nI k) (tnb T) t9) ?_
  rintro r u ⟨hr, hu⟩
  rw [hr, hu]
  clear hr hu r u
  refine x_ifB_ne 11 rfl rfl (fun h5 => ?_) (fun hn => absurd (inr_t hk (by omega)) hn)
  refine run_ok 1 (c' := (12, [(0, .ref 0), (1, .int (nI k)), (2, .int (nI 0))], [.int (nI 0)], S)) rfl ?_
  refine x_tabIn 44 rfl (by decide) (by decide) rfl rfl ?_
  refine run_ok 4 (c' := (52, [(0, .ref 0), (1, .int (nI k)), (2, .int (nI 0))], [.int (nI k), .ref 7], S)) rfl ?_
  refine x_iaN (nI (tso T k)) rfl rfl (by decide) (by omega) (t2 k (by omega)) ?_
  exact x_ret (r := some (.int (nI (tso T k)))) rfl rfl trivial ⟨rfl, rfl⟩ rfl

set_option maxHeartbeats 2000000 in
theorem c_boat_ok1 (S : ST) (T : TD) (hT : TR 5 T S) (hto : tok T) (k : Nat) (hk : k < tnb T) : EX me_N_boat 2 [.ref 0, .int (nI k), .int (nI 1)] S (fun r u => r = some (.int (nI (tbu T k))) ∧ u = S) := by
  refine EX.of mok_N_boat (Nat.le_of_ble_eq_true rfl) ?_
  obtain ⟨n8, n9, hbt, het, hht, hlo⟩ := id hto
  obtain ⟨t1, t2, t3, t4, t5, t6, t7, t8, t9, t10, t11⟩ := id hT
  refine run_ok 2 (c' := (2, [(0, .ref 0), (1, .int (nI k)), (2, .int (nI 1))], [.int (nI k), .ref 0], S)) rfl ?_
  refine x_callV [.int (nI k)] rfl cv_N_isBoat.1 lk_6_107 cv_N_isBoat.2.1 cv_N_isBoat.2.2.1 rfl cv_N_isBoat.2.2.2.1 rfl rfl (Nat.le_of_ble_eq_true rfl) (by decide) cv_N_isBoat.2.2.2.2 (c_isBoat S (nI k) (tnb T) t9) ?_
  rintro r u ⟨hr, hu⟩
  rw [hr, hu]
  clear hr hu r u
  refine x_ifB_ne 11 rfl rfl (fun h5 => ?_) (fun hn => absurd (inr_t hk (by omega)) hn)
  refine run_ok 1 (c' := (12, [(0, .ref 0), (1, .int (nI k)), (2, .int (nI 1))], [.int (nI 1)], S)) rfl ?_
  refine x_tabIn 54 rfl (by decide) (by decide) rfl rfl ?_
  refine run_ok 4 (c' := (62, [(0, .ref 0), (1, .int (nI k)), (2, .int (nI 1))], [.int (nI k), .ref 8], S)) rfl ?_
  refine x_iaN (nI (tbu T k)) rfl rfl (by decide) (by omega) (t3 k (by omega)) ?_
  exact x_ret (r := some (.int (nI (tbu T k)))) rfl rfl trivial ⟨rfl, rfl⟩ rfl

set_option maxHeartbeats 2000000 in
theorem c_boat_ok2 (S : ST) (T : TD) (hT : TR 5 T S) (hto : tok T) (k : Nat) (hk : k < tnb T) : EX me_N_boat 2 [.ref 0, .int (nI k), .int (nI 2)] S (fun r u => r = some (.int (nI (tla T k))) ∧ u = S) := by
  refine EX.of mok_N_boat (Nat.le_of_ble_eq_true rfl) ?_
  obtain ⟨n8, n9, hbt, het, hht, hlo⟩ := id hto
  obtain ⟨t1, t2, t3, t4, t5, t6, t7, t8, t9, t10, t11⟩ := id hT
  refine run_ok 2 (c' := (2, [(0, .ref 0), (1, .int (nI k)), (2, .int (nI 2))], [.int (nI k), .ref 0], S)) rfl ?_
  refine x_callV [.int (nI k)] rfl cv_N_isBoat.1 lk_6_107 cv_N_isBoat.2.1 cv_N_isBoat.2.2.1 rfl cv_N_isBoat.2.2.2.1 rfl rfl (Nat.le_of_ble_eq_true rfl) (by decide) cv_N_isBoat.2.2.2.2 (c_isBoat S (nI k) (tnb T) t9) ?_
  rintro r u ⟨hr, hu⟩
  rw [hr, hu]
  clear hr hu r u
  refine x_ifB_ne 11 rfl rfl (fun h5 => ?_) (fun hn => absurd (inr_t hk (by omega)) hn)
  refine run_ok 1 (c' := (12, [(0, .ref 0), (1, .int (nI k)), (2, .int (nI 2))], [.int (nI 2)], S)) rfl ?_
  refine x_tabIn 64 rfl (by decide) (by decide) rfl rfl ?_
  refine run_ok 4 (c' := (72, [(0, .ref 0), (1, .int (nI k)), (2, .int (nI 2))], [.int (nI k), .ref 9], S)) rfl ?_
  refine x_iaN (nI (tla T k)) rfl rfl (by decide) (by omega) (t4 k (by omega)) ?_
  exact x_ret (r := some (.int (nI (tla T k)))) rfl rfl trivial ⟨rfl, rfl⟩ rfl

set_option maxHeartbeats 2000000 in
theorem c_boat_ok3 (S : ST) (T : TD) (hT : TR 5 T S) (hto : tok T) (k : Nat) (hk : k < tnb T) : EX me_N_boat 2 [.ref 0, .int (nI k), .int (nI 3)] S (fun r u => r = some (.int (nI (tst T k))) ∧ u = S) := by
  refine EX.of mok_N_boat (Nat.le_of_ble_eq_true rfl) ?_
  obtain ⟨n8, n9, hbt, het, hht, hlo⟩ := id hto
  obtain ⟨t1, t2, t3, t4, t5, t6, t7, t8, t9, t10, t11⟩ := id hT
  refine run_ok 2 (c' := (2, [(0, .ref 0), (1, .int (nI k)), (2, .int (nI 3))], [.int (nI k), .ref 0], S)) rfl ?_
  refine x_callV [.int (nI k)] rfl cv_N_isBoat.1 lk_6_107 cv_N_isBoat.2.1 cv_N_isBoat.2.2.1 rfl cv_N_isBoat.2.2.2.1 rfl rfl (Nat.le_of_ble_eq_true rfl) (by decide) cv_N_isBoat.2.2.2.2 (c_isBoat S (nI k) (tnb T) t9) ?_
  rintro r u ⟨hr, hu⟩
  rw [hr, hu]
  clear hr hu r u
  refine x_ifB_ne 11 rfl rfl (fun h5 => ?_) (fun hn => absurd (inr_t hk (by omega)) hn)
  refine run_ok 1 (c' := (12, [(0, .ref 0), (1, .int (nI k)), (2, .int (nI 3))], [.int (nI 3)], S)) rfl ?_
  refine x_tabIn 74 rfl (by decide) (by decide) rfl rfl ?_
  refine run_ok 4 (c' := (82, [(0, .ref 0), (1, .int (nI k)), (2, .int (nI 3))], [.int (nI k), .ref 10], S)) rfl ?_
  refine x_iaN (nI (tst T k)) rfl rfl (by decide) (by omega) (t5 k (by omega)) ?_
  exact x_ret (r := some (.int (nI (tst T k)))) rfl rfl trivial ⟨rfl, rfl⟩ rfl

set_option maxHeartbeats 2000000 in
theorem c_hates_bad (S : ST) (x y z : Int32) (hbad : ¬ ((0 ≤ x ∧ x < nI 24) ∧ (0 ≤ y ∧ y < nI 8) ∧ (0 ≤ z ∧ z < nI 8) ∧ ¬ y = z)) : EX me_N_hates 5 [.ref 0, .int x, .int y, .int z] S (fun r u => r = some (.int ((-2))) ∧ u = S) := by
  refine EX.of mok_N_hates (Nat.le_of_ble_eq_true rfl) ?_
  refine run_ok 2 (c' := (3, [(0, .ref 0), (1, .int x), (2, .int y), (3, .int z)], [.int (nI 24), .int x], S)) rfl ?_
  refine x_callS [.int x, .int (nI 24)] rfl cs_N_isBelow.1 lk_6_73 cs_N_isBelow.2.1 rfl rfl (Nat.le_of_ble_eq_true rfl) (by decide) cs_N_isBelow.2.2 (c_isBelow S (x) (nI 24)) ?_
  rintro r u ⟨hr, hu⟩
  rw [hr, hu]
  clear hr hu r u
  refine x_ifB_eq 17 rfl rfl (fun h6 => ?_) (fun h6 => ?_)
  · refine run_ok 1 (c' := (19, [(0, .ref 0), (1, .int x), (2, .int y), (3, .int z)], [.int (-2)], S)) rfl ?_
    exact x_ret (r := some (.int (-2))) rfl rfl trivial ⟨rfl, rfl⟩ rfl
  · refine run_ok 2 (c' := (11, [(0, .ref 0), (1, .int x), (2, .int y), (3, .int z)], [.int z, .int y], S)) rfl ?_
    refine x_callS [.int y, .int z] rfl cs_N_areTwo.1 lk_6_97 cs_N_areTwo.2.1 rfl rfl (Nat.le_of_ble_eq_true rfl) (by decide) cs_N_areTwo.2.2 (c_areTwo S (y) (z)) ?_
    rintro r u ⟨hr, hu⟩
    rw [hr, hu]
    clear hr hu r u
    refine x_ifB_ne 20 rfl rfl (fun h14 => ?_) (fun h14 => ?_)
    · exact absurd ⟨h6, h14⟩ hbad
    · refine run_ok 1 (c' := (19, [(0, .ref 0), (1, .int x), (2, .int y), (3, .int z)], [.int (-2)], S)) rfl ?_
      exact x_ret (r := some (.int (-2))) rfl rfl trivial ⟨rfl, rfl⟩ rfl

set_option maxHeartbeats 2000000 in
theorem c_hates_ok (S : ST) (T : TD) (hT : TR 5 T S) (hto : tok T) (w p q : Nat) (hw : w < 24) (hp : p < 8) (hq : q < 8) (hpq : p ≠ q) : EX me_N_hates 5 [.ref 0, .int (nI w), .int (nI p), .int (nI q)] S (fun r u => r = some (.int (nI (vh (vo T (w + 1)) (8 * p + q)))) ∧ fr CQ S u) := by
  refine EX.of mok_N_hates (Nat.le_of_ble_eq_true rfl) ?_
  obtain ⟨n8, n9, hbt, het, hht, hlo⟩ := id hto
  obtain ⟨t1, t2, t3, t4, t5, t6, t7, t8, t9, t10, t11⟩ := id hT
  refine run_ok 2 (c' := (3, [(0, .ref 0), (1, .int (nI w)), (2, .int (nI p)), (3, .int (nI q))], [.int (nI 24), .int (nI w)], S)) rfl ?_
  refine x_callS [.int (nI w), .int (nI 24)] rfl cs_N_isBelow.1 lk_6_73 cs_N_isBelow.2.1 rfl rfl (Nat.le_of_ble_eq_true rfl) (by decide) cs_N_isBelow.2.2 (c_isBelow S (nI w) (nI 24)) ?_
  rintro r u ⟨hr, hu⟩
  rw [hr, hu]
  clear hr hu r u
  refine x_ifB_eq 17 rfl rfl (fun hn => absurd hn (fun z => z (inr_t hw (by decide)))) (fun h6 => ?_)
  refine run_ok 2 (c' := (11, [(0, .ref 0), (1, .int (nI w)), (2, .int (nI p)), (3, .int (nI q))], [.int (nI q), .int (nI p)], S)) rfl ?_
  refine x_callS [.int (nI p), .int (nI q)] rfl cs_N_areTwo.1 lk_6_97 cs_N_areTwo.2.1 rfl rfl (Nat.le_of_ble_eq_true rfl) (by decide) cs_N_areTwo.2.2 (c_areTwo S (nI p) (nI q)) ?_
  rintro r u ⟨hr, hu⟩
  rw [hr, hu]
  clear hr hu r u
  refine x_ifB_ne 20 rfl rfl (fun h14 => ?_) (fun hn => absurd (two_t hp hq hpq) hn)
  refine run_ok 5 (c' := (29, [(0, .ref 0), (1, .int (nI w)), (2, .int (nI p)), (3, .int (nI q))], [.int (nI w), .ref 5, .ref 23], S)) rfl ?_
  refine x_callV [.ref 5, .int (nI w)] rfl cv_V_run.1 lk_6_146 cv_V_run.2.1 cv_V_run.2.2.1 rfl cv_V_run.2.2.2.1 rfl rfl (Nat.le_of_ble_eq_true rfl) (by decide) cv_V_run.2.2.2.2 (c_run5 S T w hT hto (by omega)) ?_
  rintro r u ⟨hr, hCu, hfu, h2u⟩
  rw [hr]
  clear hr r
  have hTu : TR 5 T u := hT.keep hfu (by decide)
  obtain ⟨t1, t2, t3, t4, t5, t6, t7, t8, t9, t10, t11⟩ := id hTu
  obtain ⟨h24, h25, h26, h27, h28, h29, hsr, g9, g10, g11, htl⟩ := id hCu
  have hVu : vk T (vo T (w + 1)) := (vk_vo hto (w + 1) (by omega)).1
  refine run_ok 5 (c' := (41, [(0, .ref 0), (1, .int (nI w)), (2, .int (nI p)), (3, .int (nI q))], [.int (nI q), .int (nI p), .ref 24], u)) rfl ?_
  refine x_callS [.int (nI p), .int (nI q)] rfl cs_N_pair.1 lk_6_103 cs_N_pair.2.1 rfl rfl (Nat.le_of_ble_eq_true rfl) (by decide) cs_N_pair.2.2 (c_pair u (nI p) (nI q)) ?_
  rintro r u ⟨hr, hu⟩
  rw [hr, hu]
  clear hr hu r u
  refine x_top (v' := nI (p * 8 + q)) (by rw [pk_mul, nI_add]) ?_
  refine x_iaN (nI (vh (vo T (w + 1)) (8 * p + q))) rfl rfl (by decide) (by omega) (by rw [show p * 8 + q = 8 * p + q by omega]; exact h24 _ (by omega)) ?_
  exact x_ret (r := some (.int (nI (vh (vo T (w + 1)) (8 * p + q))))) rfl rfl trivial ⟨rfl, hfu.sub (by decide)⟩ rfl

set_option maxHeartbeats 2000000 in
theorem c_at_bad (S : ST) (T : TD) (t9 : S.1 5 6 = nI (tnb T)) (x y z : Int32) (hbad : ¬ ((0 ≤ x ∧ x < nI 24) ∧ (0 ≤ y ∧ y < nI (tnb T)) ∧ (0 ≤ z ∧ z < nI 4))) : EX me_N_at 5 [.ref 0, .int x, .int y, .int z] S (fun r u => r = some (.int ((-2))) ∧ u = S) := by
  refine EX.of mok_N_at (Nat.le_of_ble_eq_true rfl) ?_
  refine run_ok 2 (c' := (3, [(0, .ref 0), (1, .int x), (2, .int y), (3, .int z)], [.int (nI 24), .int x], S)) rfl ?_
  refine x_callS [.int x, .int (nI 24)] rfl cs_N_isBelow.1 lk_6_73 cs_N_isBelow.2.1 rfl rfl (Nat.le_of_ble_eq_true rfl) (by decide) cs_N_isBelow.2.2 (c_isBelow S (x) (nI 24)) ?_
  rintro r u ⟨hr, hu⟩
  rw [hr, hu]
  clear hr hu r u
  refine x_ifB_eq 25 rfl rfl (fun h6 => ?_) (fun h6 => ?_)
  · refine run_ok 1 (c' := (27, [(0, .ref 0), (1, .int x), (2, .int y), (3, .int z)], [.int (-2)], S)) rfl ?_
    exact x_ret (r := some (.int (-2))) rfl rfl trivial ⟨rfl, rfl⟩ rfl
  · refine run_ok 2 (c' := (11, [(0, .ref 0), (1, .int x), (2, .int y), (3, .int z)], [.int y, .ref 0], S)) rfl ?_
    refine x_callV [.int y] rfl cv_N_isBoat.1 lk_6_107 cv_N_isBoat.2.1 cv_N_isBoat.2.2.1 rfl cv_N_isBoat.2.2.2.1 rfl rfl (Nat.le_of_ble_eq_true rfl) (by decide) cv_N_isBoat.2.2.2.2 (c_isBoat S (y) (tnb T) t9) ?_
    rintro r u ⟨hr, hu⟩
    rw [hr, hu]
    clear hr hu r u
    refine x_ifB_eq 25 rfl rfl (fun h14 => ?_) (fun h14 => ?_)
    · refine run_ok 1 (c' := (27, [(0, .ref 0), (1, .int x), (2, .int y), (3, .int z)], [.int (-2)], S)) rfl ?_
      exact x_ret (r := some (.int (-2))) rfl rfl trivial ⟨rfl, rfl⟩ rfl
    · refine run_ok 2 (c' := (19, [(0, .ref 0), (1, .int x), (2, .int y), (3, .int z)], [.int (nI 4), .int z], S)) rfl ?_
      refine x_callS [.int z, .int (nI 4)] rfl cs_N_isBelow.1 lk_6_73 cs_N_isBelow.2.1 rfl rfl (Nat.le_of_ble_eq_true rfl) (by decide) cs_N_isBelow.2.2 (c_isBelow S (z) (nI 4)) ?_
      rintro r u ⟨hr, hu⟩
      rw [hr, hu]
      clear hr hu r u
      refine x_ifB_ne 28 rfl rfl (fun h22 => ?_) (fun h22 => ?_)
      · exact absurd ⟨h6, h14, h22⟩ hbad
      · refine run_ok 1 (c' := (27, [(0, .ref 0), (1, .int x), (2, .int y), (3, .int z)], [.int (-2)], S)) rfl ?_
        exact x_ret (r := some (.int (-2))) rfl rfl trivial ⟨rfl, rfl⟩ rfl

set_option maxHeartbeats 2000000 in
theorem c_at_ok0 (S : ST) (T : TD) (hT : TR 5 T S) (hto : tok T) (w k : Nat) (hw : w < 24) (hk : k < tnb T) : EX me_N_at 5 [.ref 0, .int (nI w), .int (nI k), .int (nI 0)] S (fun r u => r = some (.int (nI (vis (vo T (w + 1)) k))) ∧ fr CQ S u) := by
  refine EX.of mok_N_at (Nat.le_of_ble_eq_true rfl) ?_
  obtain ⟨n8, n9, hbt, het, hht, hlo⟩ := id hto
  obtain ⟨t1, t2, t3, t4, t5, t6, t7, t8, t9, t10, t11⟩ := id hT
  refine run_ok 2 (c' := (3, [(0, .ref 0), (1, .int (nI w)), (2, .int (nI k)), (3, .int (nI 0))], [.int (nI 24), .int (nI w)], S)) rfl ?_
  refine x_callS [.int (nI w), .int (nI 24)] rfl cs_N_isBelow.1 lk_6_73 cs_N_isBelow.2.1 rfl rfl (Nat.le_of_ble_eq_true rfl) (by decide) cs_N_isBelow.2.2 (c_isBelow S (nI w) (nI 24)) ?_
  rintro r u ⟨hr, hu⟩
  rw [hr, hu]
  clear hr hu r u
  refine x_ifB_eq 25 rfl rfl (fun hn => absurd hn (fun z => z (inr_t hw (by decide)))) (fun h6 => ?_)
  refine run_ok 2 (c' := (11, [(0, .ref 0), (1, .int (nI w)), (2, .int (nI k)), (3, .int (nI 0))], [.int (nI k), .ref 0], S)) rfl ?_
  refine x_callV [.int (nI k)] rfl cv_N_isBoat.1 lk_6_107 cv_N_isBoat.2.1 cv_N_isBoat.2.2.1 rfl cv_N_isBoat.2.2.2.1 rfl rfl (Nat.le_of_ble_eq_true rfl) (by decide) cv_N_isBoat.2.2.2.2 (c_isBoat S (nI k) (tnb T) t9) ?_
  rintro r u ⟨hr, hu⟩
  rw [hr, hu]
  clear hr hu r u
  refine x_ifB_eq 25 rfl rfl (fun hn => absurd hn (fun z => z (inr_t hk (by omega)))) (fun h14 => ?_)
  refine run_ok 2 (c' := (19, [(0, .ref 0), (1, .int (nI w)), (2, .int (nI k)), (3, .int (nI 0))], [.int (nI 4), .int (nI 0)], S)) rfl ?_
  refine x_callS [.int (nI 0), .int (nI 4)] rfl cs_N_isBelow.1 lk_6_73 cs_N_isBelow.2.1 rfl rfl (Nat.le_of_ble_eq_true rfl) (by decide) cs_N_isBelow.2.2 (c_isBelow S (nI 0) (nI 4)) ?_
  rintro r u ⟨hr, hu⟩
  rw [hr, hu]
  clear hr hu r u
  refine x_ifB_ne 28 rfl rfl (fun h22 => ?_) (fun hn => absurd (inr_t (by decide) (by decide)) hn)
  refine run_ok 5 (c' := (37, [(0, .ref 0), (1, .int (nI w)), (2, .int (nI k)), (3, .int (nI 0))], [.int (nI w), .ref 5, .ref 23], S)) rfl ?_
  refine x_callV [.ref 5, .int (nI w)] rfl cv_V_run.1 lk_6_146 cv_V_run.2.1 cv_V_run.2.2.1 rfl cv_V_run.2.2.2.1 rfl rfl (Nat.le_of_ble_eq_true rfl) (by decide) cv_V_run.2.2.2.2 (c_run5 S T w hT hto (by omega)) ?_
  rintro r u ⟨hr, hCu, hfu, h2u⟩
  rw [hr]
  clear hr r
  have hTu : TR 5 T u := hT.keep hfu (by decide)
  obtain ⟨t1, t2, t3, t4, t5, t6, t7, t8, t9, t10, t11⟩ := id hTu
  obtain ⟨h24, h25, h26, h27, h28, h29, hsr, g9, g10, g11, htl⟩ := id hCu
  have hVu : vk T (vo T (w + 1)) := (vk_vo hto (w + 1) (by omega)).1
  refine run_ok 1 (c' := (41, [(0, .ref 0), (1, .int (nI w)), (2, .int (nI k)), (3, .int (nI 0))], [.int (nI 0)], u)) rfl ?_
  refine x_tabIn 68 rfl (by decide) (by decide) rfl rfl ?_
  refine run_ok 4 (c' := (76, [(0, .ref 0), (1, .int (nI w)), (2, .int (nI k)), (3, .int (nI 0))], [.int (nI k), .ref 25], u)) rfl ?_
  refine x_iaN (nI (vis (vo T (w + 1)) k)) rfl rfl (by decide) (by omega) (h25 k (by omega)) ?_
  exact x_ret (r := some (.int (nI (vis (vo T (w + 1)) k)))) rfl rfl trivial ⟨rfl, hfu.sub (by decide)⟩ rfl

set_option maxHeartbeats 2000000 in
theorem c_at_ok1 (S : ST) (T : TD) (hT : TR 5 T S) (hto : tok T) (w k : Nat) (hw : w < 24) (hk : k < tnb T) : EX me_N_at 5 [.ref 0, .int (nI w), .int (nI k), .int (nI 1)] S (fun r u => r = some (.int (nmv (vnm (vo T (w + 1)) k))) ∧ fr CQ S u) := by
  refine EX.of mok_N_at (Nat.le_of_ble_eq_true rfl) ?_
  obtain ⟨n8, n9, hbt, het, hht, hlo⟩ := id hto
  obtain ⟨t1, t2, t3, t4, t5, t6, t7, t8, t9, t10, t11⟩ := id hT
  refine run_ok 2 (c' := (3, [(0, .ref 0), (1, .int (nI w)), (2, .int (nI k)), (3, .int (nI 1))], [.int (nI 24), .int (nI w)], S)) rfl ?_
  refine x_callS [.int (nI w), .int (nI 24)] rfl cs_N_isBelow.1 lk_6_73 cs_N_isBelow.2.1 rfl rfl (Nat.le_of_ble_eq_true rfl) (by decide) cs_N_isBelow.2.2 (c_isBelow S (nI w) (nI 24)) ?_
  rintro r u ⟨hr, hu⟩
  rw [hr, hu]
  clear hr hu r u
  refine x_ifB_eq 25 rfl rfl (fun hn => absurd hn (fun z => z (inr_t hw (by decide)))) (fun h6 => ?_)
  refine run_ok 2 (c' := (11, [(0, .ref 0), (1, .int (nI w)), (2, .int (nI k)), (3, .int (nI 1))], [.int (nI k), .ref 0], S)) rfl ?_
  refine x_callV [.int (nI k)] rfl cv_N_isBoat.1 lk_6_107 cv_N_isBoat.2.1 cv_N_isBoat.2.2.1 rfl cv_N_isBoat.2.2.2.1 rfl rfl (Nat.le_of_ble_eq_true rfl) (by decide) cv_N_isBoat.2.2.2.2 (c_isBoat S (nI k) (tnb T) t9) ?_
  rintro r u ⟨hr, hu⟩
  rw [hr, hu]
  clear hr hu r u
  refine x_ifB_eq 25 rfl rfl (fun hn => absurd hn (fun z => z (inr_t hk (by omega)))) (fun h14 => ?_)
  refine run_ok 2 (c' := (19, [(0, .ref 0), (1, .int (nI w)), (2, .int (nI k)), (3, .int (nI 1))], [.int (nI 4), .int (nI 1)], S)) rfl ?_
  refine x_callS [.int (nI 1), .int (nI 4)] rfl cs_N_isBelow.1 lk_6_73 cs_N_isBelow.2.1 rfl rfl (Nat.le_of_ble_eq_true rfl) (by decide) cs_N_isBelow.2.2 (c_isBelow S (nI 1) (nI 4)) ?_
  rintro r u ⟨hr, hu⟩
  rw [hr, hu]
  clear hr hu r u
  refine x_ifB_ne 28 rfl rfl (fun h22 => ?_) (fun hn => absurd (inr_t (by decide) (by decide)) hn)
  refine run_ok 5 (c' := (37, [(0, .ref 0), (1, .int (nI w)), (2, .int (nI k)), (3, .int (nI 1))], [.int (nI w), .ref 5, .ref 23], S)) rfl ?_
  refine x_callV [.ref 5, .int (nI w)] rfl cv_V_run.1 lk_6_146 cv_V_run.2.1 cv_V_run.2.2.1 rfl cv_V_run.2.2.2.1 rfl rfl (Nat.le_of_ble_eq_true rfl) (by decide) cv_V_run.2.2.2.2 (c_run5 S T w hT hto (by omega)) ?_
  rintro r u ⟨hr, hCu, hfu, h2u⟩
  rw [hr]
  clear hr r
  have hTu : TR 5 T u := hT.keep hfu (by decide)
  obtain ⟨t1, t2, t3, t4, t5, t6, t7, t8, t9, t10, t11⟩ := id hTu
  obtain ⟨h24, h25, h26, h27, h28, h29, hsr, g9, g10, g11, htl⟩ := id hCu
  have hVu : vk T (vo T (w + 1)) := (vk_vo hto (w + 1) (by omega)).1
  refine run_ok 1 (c' := (41, [(0, .ref 0), (1, .int (nI w)), (2, .int (nI k)), (3, .int (nI 1))], [.int (nI 1)], u)) rfl ?_
  refine x_tabIn 78 rfl (by decide) (by decide) rfl rfl ?_
  refine run_ok 4 (c' := (86, [(0, .ref 0), (1, .int (nI w)), (2, .int (nI k)), (3, .int (nI 1))], [.int (nI k), .ref 26], u)) rfl ?_
  refine x_iaN (nmv (vnm (vo T (w + 1)) k)) rfl rfl (by decide) (by omega) (h26 k (by omega)) ?_
  exact x_ret (r := some (.int (nmv (vnm (vo T (w + 1)) k)))) rfl rfl trivial ⟨rfl, hfu.sub (by decide)⟩ rfl

set_option maxHeartbeats 2000000 in
theorem c_at_ok2 (S : ST) (T : TD) (hT : TR 5 T S) (hto : tok T) (w k : Nat) (hw : w < 24) (hk : k < tnb T) : EX me_N_at 5 [.ref 0, .int (nI w), .int (nI k), .int (nI 2)] S (fun r u => r = some (.int (nI (vgr (vo T (w + 1)) k))) ∧ fr CQ S u) := by
  refine EX.of mok_N_at (Nat.le_of_ble_eq_true rfl) ?_
  obtain ⟨n8, n9, hbt, het, hht, hlo⟩ := id hto
  obtain ⟨t1, t2, t3, t4, t5, t6, t7, t8, t9, t10, t11⟩ := id hT
  refine run_ok 2 (c' := (3, [(0, .ref 0), (1, .int (nI w)), (2, .int (nI k)), (3, .int (nI 2))], [.int (nI 24), .int (nI w)], S)) rfl ?_
  refine x_callS [.int (nI w), .int (nI 24)] rfl cs_N_isBelow.1 lk_6_73 cs_N_isBelow.2.1 rfl rfl (Nat.le_of_ble_eq_true rfl) (by decide) cs_N_isBelow.2.2 (c_isBelow S (nI w) (nI 24)) ?_
  rintro r u ⟨hr, hu⟩
  rw [hr, hu]
  clear hr hu r u
  refine x_ifB_eq 25 rfl rfl (fun hn => absurd hn (fun z => z (inr_t hw (by decide)))) (fun h6 => ?_)
  refine run_ok 2 (c' := (11, [(0, .ref 0), (1, .int (nI w)), (2, .int (nI k)), (3, .int (nI 2))], [.int (nI k), .ref 0], S)) rfl ?_
  refine x_callV [.int (nI k)] rfl cv_N_isBoat.1 lk_6_107 cv_N_isBoat.2.1 cv_N_isBoat.2.2.1 rfl cv_N_isBoat.2.2.2.1 rfl rfl (Nat.le_of_ble_eq_true rfl) (by decide) cv_N_isBoat.2.2.2.2 (c_isBoat S (nI k) (tnb T) t9) ?_
  rintro r u ⟨hr, hu⟩
  rw [hr, hu]
  clear hr hu r u
  refine x_ifB_eq 25 rfl rfl (fun hn => absurd hn (fun z => z (inr_t hk (by omega)))) (fun h14 => ?_)
  refine run_ok 2 (c' := (19, [(0, .ref 0), (1, .int (nI w)), (2, .int (nI k)), (3, .int (nI 2))], [.int (nI 4), .int (nI 2)], S)) rfl ?_
  refine x_callS [.int (nI 2), .int (nI 4)] rfl cs_N_isBelow.1 lk_6_73 cs_N_isBelow.2.1 rfl rfl (Nat.le_of_ble_eq_true rfl) (by decide) cs_N_isBelow.2.2 (c_isBelow S (nI 2) (nI 4)) ?_
  rintro r u ⟨hr, hu⟩
  rw [hr, hu]
  clear hr hu r u
  refine x_ifB_ne 28 rfl rfl (fun h22 => ?_) (fun hn => absurd (inr_t (by decide) (by decide)) hn)
  refine run_ok 5 (c' := (37, [(0, .ref 0), (1, .int (nI w)), (2, .int (nI k)), (3, .int (nI 2))], [.int (nI w), .ref 5, .ref 23], S)) rfl ?_
  refine x_callV [.ref 5, .int (nI w)] rfl cv_V_run.1 lk_6_146 cv_V_run.2.1 cv_V_run.2.2.1 rfl cv_V_run.2.2.2.1 rfl rfl (Nat.le_of_ble_eq_true rfl) (by decide) cv_V_run.2.2.2.2 (c_run5 S T w hT hto (by omega)) ?_
  rintro r u ⟨hr, hCu, hfu, h2u⟩
  rw [hr]
  clear hr r
  have hTu : TR 5 T u := hT.keep hfu (by decide)
  obtain ⟨t1, t2, t3, t4, t5, t6, t7, t8, t9, t10, t11⟩ := id hTu
  obtain ⟨h24, h25, h26, h27, h28, h29, hsr, g9, g10, g11, htl⟩ := id hCu
  have hVu : vk T (vo T (w + 1)) := (vk_vo hto (w + 1) (by omega)).1
  refine run_ok 1 (c' := (41, [(0, .ref 0), (1, .int (nI w)), (2, .int (nI k)), (3, .int (nI 2))], [.int (nI 2)], u)) rfl ?_
  refine x_tabIn 88 rfl (by decide) (by decide) rfl rfl ?_
  refine run_ok 4 (c' := (96, [(0, .ref 0), (1, .int (nI w)), (2, .int (nI k)), (3, .int (nI 2))], [.int (nI k), .ref 27], u)) rfl ?_
  refine x_iaN (nI (vgr (vo T (w + 1)) k)) rfl rfl (by decide) (by omega) (h27 k (by omega)) ?_
  exact x_ret (r := some (.int (nI (vgr (vo T (w + 1)) k)))) rfl rfl trivial ⟨rfl, hfu.sub (by decide)⟩ rfl

set_option maxHeartbeats 2000000 in
theorem c_at_ok3 (S : ST) (T : TD) (hT : TR 5 T S) (hto : tok T) (w k : Nat) (hw : w < 24) (hk : k < tnb T) : EX me_N_at 5 [.ref 0, .int (nI w), .int (nI k), .int (nI 3)] S (fun r u => r = some (.int (nI (vho (vo T (w + 1)) k))) ∧ fr CQ S u) := by
  refine EX.of mok_N_at (Nat.le_of_ble_eq_true rfl) ?_
  obtain ⟨n8, n9, hbt, het, hht, hlo⟩ := id hto
  obtain ⟨t1, t2, t3, t4, t5, t6, t7, t8, t9, t10, t11⟩ := id hT
  refine run_ok 2 (c' := (3, [(0, .ref 0), (1, .int (nI w)), (2, .int (nI k)), (3, .int (nI 3))], [.int (nI 24), .int (nI w)], S)) rfl ?_
  refine x_callS [.int (nI w), .int (nI 24)] rfl cs_N_isBelow.1 lk_6_73 cs_N_isBelow.2.1 rfl rfl (Nat.le_of_ble_eq_true rfl) (by decide) cs_N_isBelow.2.2 (c_isBelow S (nI w) (nI 24)) ?_
  rintro r u ⟨hr, hu⟩
  rw [hr, hu]
  clear hr hu r u
  refine x_ifB_eq 25 rfl rfl (fun hn => absurd hn (fun z => z (inr_t hw (by decide)))) (fun h6 => ?_)
  refine run_ok 2 (c' := (11, [(0, .ref 0), (1, .int (nI w)), (2, .int (nI k)), (3, .int (nI 3))], [.int (nI k), .ref 0], S)) rfl ?_
  refine x_callV [.int (nI k)] rfl cv_N_isBoat.1 lk_6_107 cv_N_isBoat.2.1 cv_N_isBoat.2.2.1 rfl cv_N_isBoat.2.2.2.1 rfl rfl (Nat.le_of_ble_eq_true rfl) (by decide) cv_N_isBoat.2.2.2.2 (c_isBoat S (nI k) (tnb T) t9) ?_
  rintro r u ⟨hr, hu⟩
  rw [hr, hu]
  clear hr hu r u
  refine x_ifB_eq 25 rfl rfl (fun hn => absurd hn (fun z => z (inr_t hk (by omega)))) (fun h14 => ?_)
  refine run_ok 2 (c' := (19, [(0, .ref 0), (1, .int (nI w)), (2, .int (nI k)), (3, .int (nI 3))], [.int (nI 4), .int (nI 3)], S)) rfl ?_
  refine x_callS [.int (nI 3), .int (nI 4)] rfl cs_N_isBelow.1 lk_6_73 cs_N_isBelow.2.1 rfl rfl (Nat.le_of_ble_eq_true rfl) (by decide) cs_N_isBelow.2.2 (c_isBelow S (nI 3) (nI 4)) ?_
  rintro r u ⟨hr, hu⟩
  rw [hr, hu]
  clear hr hu r u
  refine x_ifB_ne 28 rfl rfl (fun h22 => ?_) (fun hn => absurd (inr_t (by decide) (by decide)) hn)
  refine run_ok 5 (c' := (37, [(0, .ref 0), (1, .int (nI w)), (2, .int (nI k)), (3, .int (nI 3))], [.int (nI w), .ref 5, .ref 23], S)) rfl ?_
  refine x_callV [.ref 5, .int (nI w)] rfl cv_V_run.1 lk_6_146 cv_V_run.2.1 cv_V_run.2.2.1 rfl cv_V_run.2.2.2.1 rfl rfl (Nat.le_of_ble_eq_true rfl) (by decide) cv_V_run.2.2.2.2 (c_run5 S T w hT hto (by omega)) ?_
  rintro r u ⟨hr, hCu, hfu, h2u⟩
  rw [hr]
  clear hr r
  have hTu : TR 5 T u := hT.keep hfu (by decide)
  obtain ⟨t1, t2, t3, t4, t5, t6, t7, t8, t9, t10, t11⟩ := id hTu
  obtain ⟨h24, h25, h26, h27, h28, h29, hsr, g9, g10, g11, htl⟩ := id hCu
  have hVu : vk T (vo T (w + 1)) := (vk_vo hto (w + 1) (by omega)).1
  refine run_ok 1 (c' := (41, [(0, .ref 0), (1, .int (nI w)), (2, .int (nI k)), (3, .int (nI 3))], [.int (nI 3)], u)) rfl ?_
  refine x_tabOut 98 rfl (Or.inr (by decide)) rfl ?_
  refine run_ok 4 (c' := (106, [(0, .ref 0), (1, .int (nI w)), (2, .int (nI k)), (3, .int (nI 3))], [.int (nI k), .ref 28], u)) rfl ?_
  refine x_iaN (nI (vho (vo T (w + 1)) k)) rfl rfl (by decide) (by omega) (h28 k (by omega)) ?_
  exact x_ret (r := some (.int (nI (vho (vo T (w + 1)) k)))) rfl rfl trivial ⟨rfl, hfu.sub (by decide)⟩ rfl

set_option maxHeartbeats 2000000 in
theorem c_afloat_bad (S : ST) (x : Int32) (hbad : ¬ (0 ≤ x ∧ x < nI 24)) : EX me_N_afloat 5 [.ref 0, .int x] S (fun r u => r = some (.int ((-2))) ∧ u = S) := by
  refine EX.of mok_N_afloat (Nat.le_of_ble_eq_true rfl) ?_
  refine run_ok 2 (c' := (3, [(0, .ref 0), (1, .int x)], [.int (nI 24), .int x], S)) rfl ?_
  refine x_callS [.int x, .int (nI 24)] rfl cs_N_isBelow.1 lk_6_73 cs_N_isBelow.2.1 rfl rfl (Nat.le_of_ble_eq_true rfl) (by decide) cs_N_isBelow.2.2 (c_isBelow S (x) (nI 24)) ?_
  rintro r u ⟨hr, hu⟩
  rw [hr, hu]
  clear hr hu r u
  refine x_ifB_ne 12 rfl rfl (fun h6 => ?_) (fun h6 => ?_)
  · exact absurd h6 hbad
  · refine run_ok 1 (c' := (11, [(0, .ref 0), (1, .int x)], [.int (-2)], S)) rfl ?_
    exact x_ret (r := some (.int (-2))) rfl rfl trivial ⟨rfl, rfl⟩ rfl

set_option maxHeartbeats 2000000 in
theorem c_afloat_ok (S : ST) (T : TD) (hT : TR 5 T S) (hto : tok T) (w : Nat) (hw : w < 24) : EX me_N_afloat 5 [.ref 0, .int (nI w)] S (fun r u => r = some (.int (nI (cnt (fun k => decide (vis (vo T (w + 1)) k = 1)) (tnb T)))) ∧ fr CQ S u) := by
  refine EX.of mok_N_afloat (Nat.le_of_ble_eq_true rfl) ?_
  obtain ⟨n8, n9, hbt, het, hht, hlo⟩ := id hto
  obtain ⟨t1, t2, t3, t4, t5, t6, t7, t8, t9, t10, t11⟩ := id hT
  refine run_ok 2 (c' := (3, [(0, .ref 0), (1, .int (nI w))], [.int (nI 24), .int (nI w)], S)) rfl ?_
  refine x_callS [.int (nI w), .int (nI 24)] rfl cs_N_isBelow.1 lk_6_73 cs_N_isBelow.2.1 rfl rfl (Nat.le_of_ble_eq_true rfl) (by decide) cs_N_isBelow.2.2 (c_isBelow S (nI w) (nI 24)) ?_
  rintro r u ⟨hr, hu⟩
  rw [hr, hu]
  clear hr hu r u
  refine x_ifB_ne 12 rfl rfl (fun h6 => ?_) (fun hn => absurd (inr_t hw (by decide)) hn)
  refine run_ok 5 (c' := (21, [(0, .ref 0), (1, .int (nI w))], [.int (nI w), .ref 5, .ref 23], S)) rfl ?_
  refine x_callV [.ref 5, .int (nI w)] rfl cv_V_run.1 lk_6_146 cv_V_run.2.1 cv_V_run.2.2.1 rfl cv_V_run.2.2.2.1 rfl rfl (Nat.le_of_ble_eq_true rfl) (by decide) cv_V_run.2.2.2.2 (c_run5 S T w hT hto (by omega)) ?_
  rintro r u ⟨hr, hCu, hfu, h2u⟩
  rw [hr]
  clear hr r
  have hTu : TR 5 T u := hT.keep hfu (by decide)
  obtain ⟨t1, t2, t3, t4, t5, t6, t7, t8, t9, t10, t11⟩ := id hTu
  obtain ⟨h24, h25, h26, h27, h28, h29, hsr, g9, g10, g11, htl⟩ := id hCu
  have hVu : vk T (vo T (w + 1)) := (vk_vo hto (w + 1) (by omega)).1
  refine run_ok 3 (c' := (29, [(0, .ref 0), (1, .int (nI w))], [.int (nI 1), .ref 23], u)) rfl ?_
  refine x_callV [.int (nI 1)] rfl cv_V_howMany.1 lk_6_161 cv_V_howMany.2.1 cv_V_howMany.2.2.1 rfl cv_V_howMany.2.2.2.1 rfl rfl (Nat.le_of_ble_eq_true rfl) (by decide) cv_V_howMany.2.2.2.2 (c_howMany5 u T (vo T (w + 1)) _ hTu hto hCu hVu 1 (by decide)) ?_
  rintro r v ⟨hr, hu⟩
  rw [hr, hu]
  clear hr hu r v
  exact x_ret (r := some (.int (nI (cnt (fun k => decide (vis (vo T (w + 1)) k = 1)) (tnb T))))) rfl rfl trivial ⟨rfl, hfu.sub (by decide)⟩ rfl

set_option maxHeartbeats 2000000 in
theorem c_named_bad (S : ST) (x y : Int32) (hbad : ¬ ((0 ≤ x ∧ x < nI 8) ∧ (0 ≤ y ∧ y < nI 2))) : EX me_N_named 5 [.ref 0, .int x, .int y] S (fun r u => r = some (.int ((-2))) ∧ u = S) := by
  refine EX.of mok_N_named (Nat.le_of_ble_eq_true rfl) ?_
  refine run_ok 2 (c' := (3, [(0, .ref 0), (1, .int x), (2, .int y)], [.int (nI 8), .int x], S)) rfl ?_
  refine x_callS [.int x, .int (nI 8)] rfl cs_N_isBelow.1 lk_6_73 cs_N_isBelow.2.1 rfl rfl (Nat.le_of_ble_eq_true rfl) (by decide) cs_N_isBelow.2.2 (c_isBelow S (x) (nI 8)) ?_
  rintro r u ⟨hr, hu⟩
  rw [hr, hu]
  clear hr hu r u
  refine x_ifB_eq 17 rfl rfl (fun h6 => ?_) (fun h6 => ?_)
  · refine run_ok 1 (c' := (19, [(0, .ref 0), (1, .int x), (2, .int y)], [.int (-2)], S)) rfl ?_
    exact x_ret (r := some (.int (-2))) rfl rfl trivial ⟨rfl, rfl⟩ rfl
  · refine run_ok 2 (c' := (11, [(0, .ref 0), (1, .int x), (2, .int y)], [.int (nI 2), .int y], S)) rfl ?_
    refine x_callS [.int y, .int (nI 2)] rfl cs_N_isBelow.1 lk_6_73 cs_N_isBelow.2.1 rfl rfl (Nat.le_of_ble_eq_true rfl) (by decide) cs_N_isBelow.2.2 (c_isBelow S (y) (nI 2)) ?_
    rintro r u ⟨hr, hu⟩
    rw [hr, hu]
    clear hr hu r u
    refine x_ifB_ne 20 rfl rfl (fun h14 => ?_) (fun h14 => ?_)
    · exact absurd ⟨h6, h14⟩ hbad
    · refine run_ok 1 (c' := (19, [(0, .ref 0), (1, .int x), (2, .int y)], [.int (-2)], S)) rfl ?_
      exact x_ret (r := some (.int (-2))) rfl rfl trivial ⟨rfl, rfl⟩ rfl

set_option maxHeartbeats 2000000 in
theorem c_named_ok0 (S : ST) (T : TD) (hT : TR 5 T S) (hto : tok T) (p : Nat) (hp : p < 8) : EX me_N_named 5 [.ref 0, .int (nI p), .int (nI 0)] S (fun r u => r = some (.int (nI (cnt (fun k => decide (vnm (vo T 24) k = p ∧ (0 = 1 → vis (vo T 24) k = 2))) (tnb T)))) ∧ fr CQ S u) := by
  refine EX.of mok_N_named (Nat.le_of_ble_eq_true rfl) ?_
  obtain ⟨n8, n9, hbt, het, hht, hlo⟩ := id hto
  obtain ⟨t1, t2, t3, t4, t5, t6, t7, t8, t9, t10, t11⟩ := id hT
  refine run_ok 2 (c' := (3, [(0, .ref 0), (1, .int (nI p)), (2, .int (nI 0))], [.int (nI 8), .int (nI p)], S)) rfl ?_
  refine x_callS [.int (nI p), .int (nI 8)] rfl cs_N_isBelow.1 lk_6_73 cs_N_isBelow.2.1 rfl rfl (Nat.le_of_ble_eq_true rfl) (by decide) cs_N_isBelow.2.2 (c_isBelow S (nI p) (nI 8)) ?_
  rintro r u ⟨hr, hu⟩
  rw [hr, hu]
  clear hr hu r u
  refine x_ifB_eq 17 rfl rfl (fun hn => absurd hn (fun z => z (inr_t hp (by decide)))) (fun h6 => ?_)
  refine run_ok 2 (c' := (11, [(0, .ref 0), (1, .int (nI p)), (2, .int (nI 0))], [.int (nI 2), .int (nI 0)], S)) rfl ?_
  refine x_callS [.int (nI 0), .int (nI 2)] rfl cs_N_isBelow.1 lk_6_73 cs_N_isBelow.2.1 rfl rfl (Nat.le_of_ble_eq_true rfl) (by decide) cs_N_isBelow.2.2 (c_isBelow S (nI 0) (nI 2)) ?_
  rintro r u ⟨hr, hu⟩
  rw [hr, hu]
  clear hr hu r u
  refine x_ifB_ne 20 rfl rfl (fun h14 => ?_) (fun hn => absurd (inr_t (by decide) (by decide)) hn)
  refine run_ok 5 (c' := (30, [(0, .ref 0), (1, .int (nI p)), (2, .int (nI 0))], [.int (nI 23), .ref 5, .ref 23], S)) rfl ?_
  refine x_callV [.ref 5, .int (nI 23)] rfl cv_V_run.1 lk_6_146 cv_V_run.2.1 cv_V_run.2.2.1 rfl cv_V_run.2.2.2.1 rfl rfl (Nat.le_of_ble_eq_true rfl) (by decide) cv_V_run.2.2.2.2 (c_run5 S T 23 hT hto (by omega)) ?_
  rintro r u ⟨hr, hCu, hfu, h2u⟩
  rw [hr]
  clear hr r
  have hTu : TR 5 T u := hT.keep hfu (by decide)
  obtain ⟨t1, t2, t3, t4, t5, t6, t7, t8, t9, t10, t11⟩ := id hTu
  obtain ⟨h24, h25, h26, h27, h28, h29, hsr, g9, g10, g11, htl⟩ := id hCu
  have hVu : vk T (vo T 24) := (vk_vo hto (23 + 1) (by omega)).1
  refine run_ok 5 (c' := (40, [(0, .ref 0), (1, .int (nI p)), (2, .int (nI 0))], [.int (nI 1), .int (nI 0), .int (nI p), .ref 23], u)) rfl ?_
  refine x_icmpN_ne 47 rfl rfl (by omega) (by omega) (fun h40 => ?_) (fun hn => absurd hn (by decide))
  refine run_ok 1 (c' := (48, [(0, .ref 0), (1, .int (nI p)), (2, .int (nI 0))], [.int (nI 0), .int (nI p), .ref 23], u)) rfl ?_
  refine x_callV [.int (nI p), .int (nI 0)] rfl cv_V_namesakes.1 lk_6_164 cv_V_namesakes.2.1 cv_V_namesakes.2.2.1 rfl cv_V_namesakes.2.2.2.1 rfl rfl (Nat.le_of_ble_eq_true rfl) (by decide) cv_V_namesakes.2.2.2.2 (c_namesakes u T (vo T 24) _ hTu hto hCu hVu p 0 hp (by decide)) ?_
  rintro r v ⟨hr, hu⟩
  rw [hr, hu]
  clear hr hu r v
  exact x_ret (r := some (.int (nI (cnt (fun k => decide (vnm (vo T 24) k = p ∧ (0 = 1 → vis (vo T 24) k = 2))) (tnb T))))) rfl rfl trivial ⟨rfl, hfu.sub (by decide)⟩ rfl

set_option maxHeartbeats 2000000 in
theorem c_named_ok1 (S : ST) (T : TD) (hT : TR 5 T S) (hto : tok T) (p : Nat) (hp : p < 8) : EX me_N_named 5 [.ref 0, .int (nI p), .int (nI 1)] S (fun r u => r = some (.int (nI (cnt (fun k => decide (vnm (vo T 24) k = p ∧ (1 = 1 → vis (vo T 24) k = 2))) (tnb T)))) ∧ fr CQ S u) := by
  refine EX.of mok_N_named (Nat.le_of_ble_eq_true rfl) ?_
  obtain ⟨n8, n9, hbt, het, hht, hlo⟩ := id hto
  obtain ⟨t1, t2, t3, t4, t5, t6, t7, t8, t9, t10, t11⟩ := id hT
  refine run_ok 2 (c' := (3, [(0, .ref 0), (1, .int (nI p)), (2, .int (nI 1))], [.int (nI 8), .int (nI p)], S)) rfl ?_
  refine x_callS [.int (nI p), .int (nI 8)] rfl cs_N_isBelow.1 lk_6_73 cs_N_isBelow.2.1 rfl rfl (Nat.le_of_ble_eq_true rfl) (by decide) cs_N_isBelow.2.2 (c_isBelow S (nI p) (nI 8)) ?_
  rintro r u ⟨hr, hu⟩
  rw [hr, hu]
  clear hr hu r u
  refine x_ifB_eq 17 rfl rfl (fun hn => absurd hn (fun z => z (inr_t hp (by decide)))) (fun h6 => ?_)
  refine run_ok 2 (c' := (11, [(0, .ref 0), (1, .int (nI p)), (2, .int (nI 1))], [.int (nI 2), .int (nI 1)], S)) rfl ?_
  refine x_callS [.int (nI 1), .int (nI 2)] rfl cs_N_isBelow.1 lk_6_73 cs_N_isBelow.2.1 rfl rfl (Nat.le_of_ble_eq_true rfl) (by decide) cs_N_isBelow.2.2 (c_isBelow S (nI 1) (nI 2)) ?_
  rintro r u ⟨hr, hu⟩
  rw [hr, hu]
  clear hr hu r u
  refine x_ifB_ne 20 rfl rfl (fun h14 => ?_) (fun hn => absurd (inr_t (by decide) (by decide)) hn)
  refine run_ok 5 (c' := (30, [(0, .ref 0), (1, .int (nI p)), (2, .int (nI 1))], [.int (nI 23), .ref 5, .ref 23], S)) rfl ?_
  refine x_callV [.ref 5, .int (nI 23)] rfl cv_V_run.1 lk_6_146 cv_V_run.2.1 cv_V_run.2.2.1 rfl cv_V_run.2.2.2.1 rfl rfl (Nat.le_of_ble_eq_true rfl) (by decide) cv_V_run.2.2.2.2 (c_run5 S T 23 hT hto (by omega)) ?_
  rintro r u ⟨hr, hCu, hfu, h2u⟩
  rw [hr]
  clear hr r
  have hTu : TR 5 T u := hT.keep hfu (by decide)
  obtain ⟨t1, t2, t3, t4, t5, t6, t7, t8, t9, t10, t11⟩ := id hTu
  obtain ⟨h24, h25, h26, h27, h28, h29, hsr, g9, g10, g11, htl⟩ := id hCu
  have hVu : vk T (vo T 24) := (vk_vo hto (23 + 1) (by omega)).1
  refine run_ok 5 (c' := (40, [(0, .ref 0), (1, .int (nI p)), (2, .int (nI 1))], [.int (nI 1), .int (nI 1), .int (nI p), .ref 23], u)) rfl ?_
  refine x_icmpN_ne 47 rfl rfl (by omega) (by omega) (fun hn => absurd (by decide) hn) (fun h40 => ?_)
  refine run_ok 2 (c' := (48, [(0, .ref 0), (1, .int (nI p)), (2, .int (nI 1))], [.int (nI 1), .int (nI p), .ref 23], u)) rfl ?_
  refine x_callV [.int (nI p), .int (nI 1)] rfl cv_V_namesakes.1 lk_6_164 cv_V_namesakes.2.1 cv_V_namesakes.2.2.1 rfl cv_V_namesakes.2.2.2.1 rfl rfl (Nat.le_of_ble_eq_true rfl) (by decide) cv_V_namesakes.2.2.2.2 (c_namesakes u T (vo T 24) _ hTu hto hCu hVu p 1 hp (by decide)) ?_
  rintro r v ⟨hr, hu⟩
  rw [hr, hu]
  clear hr hu r v
  exact x_ret (r := some (.int (nI (cnt (fun k => decide (vnm (vo T 24) k = p ∧ (1 = 1 → vis (vo T 24) k = 2))) (tnb T))))) rfl rfl trivial ⟨rfl, hfu.sub (by decide)⟩ rfl

set_option maxHeartbeats 2000000 in
theorem c_first_bad (S : ST) (x : Int32) (hbad : ¬ (0 ≤ x ∧ x < nI 2)) : EX me_N_first 5 [.ref 0, .int x] S (fun r u => r = some (.int ((-2))) ∧ u = S) := by
  refine EX.of mok_N_first (Nat.le_of_ble_eq_true rfl) ?_
  refine run_ok 2 (c' := (2, [(0, .ref 0), (1, .int x)], [.int (nI 2), .int x], S)) rfl ?_
  refine x_callS [.int x, .int (nI 2)] rfl cs_N_isBelow.1 lk_6_73 cs_N_isBelow.2.1 rfl rfl (Nat.le_of_ble_eq_true rfl) (by decide) cs_N_isBelow.2.2 (c_isBelow S (x) (nI 2)) ?_
  rintro r u ⟨hr, hu⟩
  rw [hr, hu]
  clear hr hu r u
  refine x_ifB_ne 11 rfl rfl (fun h5 => ?_) (fun h5 => ?_)
  · exact absurd h5 hbad
  · refine run_ok 1 (c' := (10, [(0, .ref 0), (1, .int x)], [.int (-2)], S)) rfl ?_
    exact x_ret (r := some (.int (-2))) rfl rfl trivial ⟨rfl, rfl⟩ rfl

set_option maxHeartbeats 2000000 in
theorem c_first_ok0 (S : ST) (T : TD) (hT : TR 5 T S) (hto : tok T) : EX me_N_first 5 [.ref 0, .int (nI 0)] S (fun r u => r = some (.int (fwv (vfw (vo T 24)))) ∧ fr CQ S u) := by
  refine EX.of mok_N_first (Nat.le_of_ble_eq_true rfl) ?_
  obtain ⟨n8, n9, hbt, het, hht, hlo⟩ := id hto
  obtain ⟨t1, t2, t3, t4, t5, t6, t7, t8, t9, t10, t11⟩ := id hT
  refine run_ok 2 (c' := (2, [(0, .ref 0), (1, .int (nI 0))], [.int (nI 2), .int (nI 0)], S)) rfl ?_
  refine x_callS [.int (nI 0), .int (nI 2)] rfl cs_N_isBelow.1 lk_6_73 cs_N_isBelow.2.1 rfl rfl (Nat.le_of_ble_eq_true rfl) (by decide) cs_N_isBelow.2.2 (c_isBelow S (nI 0) (nI 2)) ?_
  rintro r u ⟨hr, hu⟩
  rw [hr, hu]
  clear hr hu r u
  refine x_ifB_ne 11 rfl rfl (fun h5 => ?_) (fun hn => absurd (inr_t (by decide) (by decide)) hn)
  refine run_ok 5 (c' := (21, [(0, .ref 0), (1, .int (nI 0))], [.int (nI 23), .ref 5, .ref 23], S)) rfl ?_
  refine x_callV [.ref 5, .int (nI 23)] rfl cv_V_run.1 lk_6_146 cv_V_run.2.1 cv_V_run.2.2.1 rfl cv_V_run.2.2.2.1 rfl rfl (Nat.le_of_ble_eq_true rfl) (by decide) cv_V_run.2.2.2.2 (c_run5 S T 23 hT hto (by omega)) ?_
  rintro r u ⟨hr, hCu, hfu, h2u⟩
  rw [hr]
  clear hr r
  have hTu : TR 5 T u := hT.keep hfu (by decide)
  obtain ⟨t1, t2, t3, t4, t5, t6, t7, t8, t9, t10, t11⟩ := id hTu
  obtain ⟨h24, h25, h26, h27, h28, h29, hsr, g9, g10, g11, htl⟩ := id hCu
  have hVu : vk T (vo T 24) := (vk_vo hto (23 + 1) (by omega)).1
  refine run_ok 1 (c' := (25, [(0, .ref 0), (1, .int (nI 0))], [.int (nI 0)], u)) rfl ?_
  refine x_ifN_ne 38 rfl rfl (by omega) (fun hn => absurd (by decide) hn) (fun h25 => ?_)
  refine run_ok 3 (c' := (35, [(0, .ref 0), (1, .int (nI 0))], [.int (u.1 23 10)], u)) rfl ?_
  refine x_top (v' := fwv (vfw (vo T 24))) g10 ?_
  refine run_ok 1 (c' := (45, [(0, .ref 0), (1, .int (nI 0))], [.int (fwv (vfw (vo T 24)))], u)) rfl ?_
  exact x_ret (r := some (.int (fwv (vfw (vo T 24))))) rfl rfl trivial ⟨rfl, hfu.sub (by decide)⟩ rfl

set_option maxHeartbeats 2000000 in
theorem c_first_ok1 (S : ST) (T : TD) (hT : TR 5 T S) (hto : tok T) : EX me_N_first 5 [.ref 0, .int (nI 1)] S (fun r u => r = some (.int (nmv (vfb (vo T 24)))) ∧ fr CQ S u) := by
  refine EX.of mok_N_first (Nat.le_of_ble_eq_true rfl) ?_
  obtain ⟨n8, n9, hbt, het, hht, hlo⟩ := id hto
  obtain ⟨t1, t2, t3, t4, t5, t6, t7, t8, t9, t10, t11⟩ := id hT
  refine run_ok 2 (c' := (2, [(0, .ref 0), (1, .int (nI 1))], [.int (nI 2), .int (nI 1)], S)) rfl ?_
  refine x_callS [.int (nI 1), .int (nI 2)] rfl cs_N_isBelow.1 lk_6_73 cs_N_isBelow.2.1 rfl rfl (Nat.le_of_ble_eq_true rfl) (by decide) cs_N_isBelow.2.2 (c_isBelow S (nI 1) (nI 2)) ?_
  rintro r u ⟨hr, hu⟩
  rw [hr, hu]
  clear hr hu r u
  refine x_ifB_ne 11 rfl rfl (fun h5 => ?_) (fun hn => absurd (inr_t (by decide) (by decide)) hn)
  refine run_ok 5 (c' := (21, [(0, .ref 0), (1, .int (nI 1))], [.int (nI 23), .ref 5, .ref 23], S)) rfl ?_
  refine x_callV [.ref 5, .int (nI 23)] rfl cv_V_run.1 lk_6_146 cv_V_run.2.1 cv_V_run.2.2.1 rfl cv_V_run.2.2.2.1 rfl rfl (Nat.le_of_ble_eq_true rfl) (by decide) cv_V_run.2.2.2.2 (c_run5 S T 23 hT hto (by omega)) ?_
  rintro r u ⟨hr, hCu, hfu, h2u⟩
  rw [hr]
  clear hr r
  have hTu : TR 5 T u := hT.keep hfu (by decide)
  obtain ⟨t1, t2, t3, t4, t5, t6, t7, t8, t9, t10, t11⟩ := id hTu
  obtain ⟨h24, h25, h26, h27, h28, h29, hsr, g9, g10, g11, htl⟩ := id hCu
  have hVu : vk T (vo T 24) := (vk_vo hto (23 + 1) (by omega)).1
  refine run_ok 1 (c' := (25, [(0, .ref 0), (1, .int (nI 1))], [.int (nI 1)], u)) rfl ?_
  refine x_ifN_ne 38 rfl rfl (by omega) (fun h25 => ?_) (fun hn => absurd hn (by decide))
  refine run_ok 3 (c' := (45, [(0, .ref 0), (1, .int (nI 1))], [.int (u.1 23 11)], u)) rfl ?_
  refine x_top (v' := nmv (vfb (vo T 24))) g11 ?_
  exact x_ret (r := some (.int (nmv (vfb (vo T 24))))) rfl rfl trivial ⟨rfl, hfu.sub (by decide)⟩ rfl

set_option maxHeartbeats 2000000 in
theorem c_longs_bad (S : ST) (T : TD) (t9 : S.1 5 6 = nI (tnb T)) (x : Int32) (hbad : ¬ (0 ≤ x ∧ x < nI (tnb T))) : EX me_N_longs 5 [.ref 0, .int x] S (fun r u => r = some (.int ((-2))) ∧ u = S) := by
  refine EX.of mok_N_longs (Nat.le_of_ble_eq_true rfl) ?_
  refine run_ok 2 (c' := (2, [(0, .ref 0), (1, .int x)], [.int x, .ref 0], S)) rfl ?_
  refine x_callV [.int x] rfl cv_N_isBoat.1 lk_6_107 cv_N_isBoat.2.1 cv_N_isBoat.2.2.1 rfl cv_N_isBoat.2.2.2.1 rfl rfl (Nat.le_of_ble_eq_true rfl) (by decide) cv_N_isBoat.2.2.2.2 (c_isBoat S (x) (tnb T) t9) ?_
  rintro r u ⟨hr, hu⟩
  rw [hr, hu]
  clear hr hu r u
  refine x_ifB_ne 11 rfl rfl (fun h5 => ?_) (fun h5 => ?_)
  · exact absurd h5 hbad
  · refine run_ok 1 (c' := (10, [(0, .ref 0), (1, .int x)], [.int (-2)], S)) rfl ?_
    exact x_ret (r := some (.int (-2))) rfl rfl trivial ⟨rfl, rfl⟩ rfl

set_option maxHeartbeats 2000000 in
theorem c_longs_ok (S : ST) (T : TD) (hT : TR 5 T S) (hto : tok T) (k : Nat) (hk : k < tnb T) : EX me_N_longs 5 [.ref 0, .int (nI k)] S (fun r u => r = some (.int (nI (lsn T 24 k))) ∧ fr CQ S u) := by
  refine EX.of mok_N_longs (Nat.le_of_ble_eq_true rfl) ?_
  obtain ⟨n8, n9, hbt, het, hht, hlo⟩ := id hto
  obtain ⟨t1, t2, t3, t4, t5, t6, t7, t8, t9, t10, t11⟩ := id hT
  refine run_ok 2 (c' := (2, [(0, .ref 0), (1, .int (nI k))], [.int (nI k), .ref 0], S)) rfl ?_
  refine x_callV [.int (nI k)] rfl cv_N_isBoat.1 lk_6_107 cv_N_isBoat.2.1 cv_N_isBoat.2.2.1 rfl cv_N_isBoat.2.2.2.1 rfl rfl (Nat.le_of_ble_eq_true rfl) (by decide) cv_N_isBoat.2.2.2.2 (c_isBoat S (nI k) (tnb T) t9) ?_
  rintro r u ⟨hr, hu⟩
  rw [hr, hu]
  clear hr hu r u
  refine x_ifB_ne 11 rfl rfl (fun h5 => ?_) (fun hn => absurd (inr_t hk (by omega)) hn)
  refine run_ok 5 (c' := (21, [(0, .ref 0), (1, .int (nI k))], [.int (nI 23), .ref 5, .ref 23], S)) rfl ?_
  refine x_callV [.ref 5, .int (nI 23)] rfl cv_V_run.1 lk_6_146 cv_V_run.2.1 cv_V_run.2.2.1 rfl cv_V_run.2.2.2.1 rfl rfl (Nat.le_of_ble_eq_true rfl) (by decide) cv_V_run.2.2.2.2 (c_run5 S T 23 hT hto (by omega)) ?_
  rintro r u ⟨hr, hCu, hfu, h2u⟩
  rw [hr]
  clear hr r
  have hTu : TR 5 T u := hT.keep hfu (by decide)
  obtain ⟨t1, t2, t3, t4, t5, t6, t7, t8, t9, t10, t11⟩ := id hTu
  obtain ⟨h24, h25, h26, h27, h28, h29, hsr, g9, g10, g11, htl⟩ := id hCu
  have hVu : vk T (vo T 24) := (vk_vo hto (23 + 1) (by omega)).1
  refine run_ok 4 (c' := (32, [(0, .ref 0), (1, .int (nI k))], [.int (nI k), .ref 29], u)) rfl ?_
  refine x_iaN (nI (lsn T 24 k)) rfl rfl (by decide) (by omega) (h29 k (by omega)) ?_
  exact x_ret (r := some (.int (nI (lsn T 24 k)))) rfl rfl trivial ⟨rfl, hfu.sub (by decide)⟩ rfl


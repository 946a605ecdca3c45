/-! copy, write, read, count of the class -/
theorem minN {a b : Nat} (ha : a < 2147483648) (hb : b < 2147483648) : (if nI b < nI a then nI b else nI a) = nI (min a b) := by
  by_cases h : b < a
  · rw [if_pos ((nI_ltI hb ha).mpr h), Nat.min_eq_right (by omega)]
  · rw [if_neg (fun z => h ((nI_ltI hb ha).mp z)), Nat.min_eq_left (by omega)]
theorem HR.keep {k lo fm sz : Nat} {u v : ST} (h : HR k lo fm sz u) (e : v.1 k = u.1 k) : HR k lo fm sz v := by
  unfold HR
  rw [e]
  exact h
def hasI (sz : Nat) (x y : Int32) : Prop := 0 ≤ x ∧ 0 ≤ y ∧ y ≤ nI sz ∧ x ≤ nI sz - y
theorem hasI_t {sz i n : Nat} (h : i + n ≤ sz) (hs : sz ≤ 60) : 0 ≤ nI i ∧ 0 ≤ nI n ∧ nI n ≤ nI sz ∧ nI i ≤ nI sz - nI n := by
  refine ⟨nI_pos' (by omega), nI_pos' (by omega), (nI_leI (by omega) (by omega)).mpr (by omega), ?_⟩
  rw [pk_sub (by omega)]
  exact (nI_leI (by omega) (by omega)).mpr (by omega)
set_option maxHeartbeats 2000000 in
theorem c_copy_bad (S : ST) (x a y b n : Int32) (hbad : ¬ ((0 ≤ x ∧ x < nI 4) ∧ (0 ≤ y ∧ y < nI 4))) : EX me_N_copy 2 [.ref 0, .int x, .int a, .int y, .int b, .int n] S (fun r u => r = some (.int ((-2))) ∧ u = S) := by
  refine EX.of mok_N_copy (Nat.le_of_ble_eq_true rfl) ?_
  refine run_ok 2 (c' := (2, [(0, .ref 0), (1, .int x), (2, .int a), (3, .int y), (4, .int b), (5, .int n)], [.int (nI 4), .int x], S)) rfl ?_
  refine x_callS [.int x, .int (nI 4)] rfl cs_N_isBelow.1 lk_6_73 cs_N_isBelow.2.1 rfl rfl (Nat.le_of_ble_eq_true rfl) (by decide) cs_N_isBelow.2.2 (c_isBelow S (x) (nI 4)) ?_
  rintro r u ⟨hr, hu⟩
  rw [hr, hu]
  clear hr hu r u
  refine x_ifB_eq 16 rfl rfl (fun h5 => ?_) (fun h5 => ?_)
  · refine run_ok 1 (c' := (18, [(0, .ref 0), (1, .int x), (2, .int a), (3, .int y), (4, .int b), (5, .int n)], [.int (-2)], S)) rfl ?_
    exact x_ret (r := some (.int (-2))) rfl rfl trivial ⟨rfl, rfl⟩ rfl
  · refine run_ok 2 (c' := (10, [(0, .ref 0), (1, .int x), (2, .int a), (3, .int y), (4, .int b), (5, .int n)], [.int (nI 4), .int y], S)) rfl ?_
    refine x_callS [.int y, .int (nI 4)] rfl cs_N_isBelow.1 lk_6_73 cs_N_isBelow.2.1 rfl rfl (Nat.le_of_ble_eq_true rfl) (by decide) cs_N_isBelow.2.2 (c_isBelow S (y) (nI 4)) ?_
    rintro r u ⟨hr, hu⟩
    rw [hr, hu]
    clear hr hu r u
    refine x_ifB_ne 19 rfl rfl (fun h13 => ?_) (fun h13 => ?_)
    · exact absurd ⟨h5, h13⟩ hbad
    · refine run_ok 1 (c' := (18, [(0, .ref 0), (1, .int x), (2, .int a), (3, .int y), (4, .int b), (5, .int n)], [.int (-2)], S)) rfl ?_
      exact x_ret (r := some (.int (-2))) rfl rfl trivial ⟨rfl, rfl⟩ rfl

set_option maxHeartbeats 2000000 in
theorem c_copy_null00 (S : ST) (lo fm sz : Nat) (hH : HR 38 lo fm sz S) (a b n : Int32) (hnl : ¬ (lo = 0 ∧ lo = 0)) : EX me_N_copy 2 [.ref 0, .int (nI 0), .int a, .int (nI 0), .int b, .int n] S (fun r u => r = some (.int ((-10) - nI 1)) ∧ u = pt S 0 10 (nI 1)) := by
  refine EX.of mok_N_copy (Nat.le_of_ble_eq_true rfl) ?_
  obtain ⟨g3, g1, g2, hl1, hf2, hs60⟩ := id hH
  refine run_ok 2 (c' := (2, [(0, .ref 0), (1, .int (nI 0)), (2, .int a), (3, .int (nI 0)), (4, .int b), (5, .int n)], [.int (nI 4), .int (nI 0)], S)) rfl ?_
  refine x_callS [.int (nI 0), .int (nI 4)] rfl cs_N_isBelow.1 lk_6_73 cs_N_isBelow.2.1 rfl rfl (Nat.le_of_ble_eq_true rfl) (by decide) cs_N_isBelow.2.2 (c_isBelow S (nI 0) (nI 4)) ?_
  rintro r u ⟨hr, hu⟩
  rw [hr, hu]
  clear hr hu r u
  refine x_ifB_eq 16 rfl rfl (fun hn => absurd hn (fun z => z (inr_t (by decide) (by decide)))) (fun h5 => ?_)
  refine run_ok 2 (c' := (10, [(0, .ref 0), (1, .int (nI 0)), (2, .int a), (3, .int (nI 0)), (4, .int b), (5, .int n)], [.int (nI 4), .int (nI 0)], S)) rfl ?_
  refine x_callS [.int (nI 0), .int (nI 4)] rfl cs_N_isBelow.1 lk_6_73 cs_N_isBelow.2.1 rfl rfl (Nat.le_of_ble_eq_true rfl) (by decide) cs_N_isBelow.2.2 (c_isBelow S (nI 0) (nI 4)) ?_
  rintro r u ⟨hr, hu⟩
  rw [hr, hu]
  clear hr hu r u
  refine x_ifB_ne 19 rfl rfl (fun h13 => ?_) (fun hn => absurd (inr_t (by decide) (by decide)) hn)
  refine run_ok 3 (c' := (24, [(0, .ref 0), (1, .int (nI 0)), (2, .int a), (3, .int (nI 0)), (4, .int b), (5, .int n)], [.int (nI 0), .ref 37], S)) rfl ?_
  refine x_aald (t := 38) rfl rfl (vp_in_nI (by decide) (by decide)) (by decide) ?_
  refine run_ok 4 (c' := (32, [(0, .ref 0), (1, .int (nI 0)), (2, .int a), (3, .int (nI 0)), (4, .int b), (5, .int n), (6, .ref 38)], [.int (nI 0), .ref 37], S)) rfl ?_
  refine x_aald (t := 38) rfl rfl (vp_in_nI (by decide) (by decide)) (by decide) ?_
  refine run_ok 3 (c' := (40, [(0, .ref 0), (1, .int (nI 0)), (2, .int a), (3, .int (nI 0)), (4, .int b), (5, .int n), (6, .ref 38), (7, .ref 38)], [.int (S.1 38 3)], S)) rfl ?_
  refine x_top (v' := nI lo) g3 ?_
  refine x_ifN_ne 51 rfl rfl (by omega) (fun h40 => ?_) (fun h40 => ?_)
  · refine run_ok 2 (c' := (53, [(0, .ref 0), (1, .int (nI 0)), (2, .int a), (3, .int (nI 0)), (4, .int b), (5, .int n), (6, .ref 38), (7, .ref 38)], [.int (nI 1), .ref 0], S)) rfl ?_
    refine x_callV [.int (nI 1)] rfl cv_N_find.1 lk_6_134 cv_N_find.2.1 cv_N_find.2.2.1 rfl cv_N_find.2.2.2.1 rfl rfl (Nat.le_of_ble_eq_true rfl) (by decide) cv_N_find.2.2.2.2 (c_find S (1)) ?_
    rintro r x ⟨hr, hu⟩
    rw [hr, hu]
    clear hr hu r x
    exact x_ret (r := some (.int ((-10) - nI 1))) rfl rfl trivial ⟨rfl, rfl⟩ rfl
  · refine run_ok 2 (c' := (48, [(0, .ref 0), (1, .int (nI 0)), (2, .int a), (3, .int (nI 0)), (4, .int b), (5, .int n), (6, .ref 38), (7, .ref 38)], [.int (S.1 38 3)], S)) rfl ?_
    refine x_top (v' := nI lo) g3 ?_
    refine x_ifN_eq 57 rfl rfl (by omega) (fun h48 => ?_) (fun h48 => ?_)
    · exact absurd hnl (by omega)
    · refine run_ok 2 (c' := (53, [(0, .ref 0), (1, .int (nI 0)), (2, .int a), (3, .int (nI 0)), (4, .int b), (5, .int n), (6, .ref 38), (7, .ref 38)], [.int (nI 1), .ref 0], S)) rfl ?_
      refine x_callV [.int (nI 1)] rfl cv_N_find.1 lk_6_134 cv_N_find.2.1 cv_N_find.2.2.1 rfl cv_N_find.2.2.2.1 rfl rfl (Nat.le_of_ble_eq_true rfl) (by decide) cv_N_find.2.2.2.2 (c_find S (1)) ?_
      rintro r x ⟨hr, hu⟩
      rw [hr, hu]
      clear hr hu r x
      exact x_ret (r := some (.int ((-10) - nI 1))) rfl rfl trivial ⟨rfl, rfl⟩ rfl

set_option maxHeartbeats 2000000 in
theorem c_copy_index00 (S : ST) (lo fm sz : Nat) (hH : HR 38 lo fm sz S) (a b n : Int32) (hz1 : lo = 0) (hz2 : lo = 0) (hix : ¬ (hasI sz a n ∧ hasI sz b n)) : EX me_N_copy 2 [.ref 0, .int (nI 0), .int a, .int (nI 0), .int b, .int n] S (fun r u => r = some (.int ((-10) - nI 2)) ∧ u = pt S 0 10 (nI 2)) := by
  refine EX.of mok_N_copy (Nat.le_of_ble_eq_true rfl) ?_
  obtain ⟨g3, g1, g2, hl1, hf2, hs60⟩ := id hH
  have hst : fm = fm := rfl
  refine run_ok 2 (c' := (2, [(0, .ref 0), (1, .int (nI 0)), (2, .int a), (3, .int (nI 0)), (4, .int b), (5, .int n)], [.int (nI 4), .int (nI 0)], S)) rfl ?_
  refine x_callS [.int (nI 0), .int (nI 4)] rfl cs_N_isBelow.1 lk_6_73 cs_N_isBelow.2.1 rfl rfl (Nat.le_of_ble_eq_true rfl) (by decide) cs_N_isBelow.2.2 (c_isBelow S (nI 0) (nI 4)) ?_
  rintro r u ⟨hr, hu⟩
  rw [hr, hu]
  clear hr hu r u
  refine x_ifB_eq 16 rfl rfl (fun hn => absurd hn (fun z => z (inr_t (by decide) (by decide)))) (fun h5 => ?_)
  refine run_ok 2 (c' := (10, [(0, .ref 0), (1, .int (nI 0)), (2, .int a), (3, .int (nI 0)), (4, .int b), (5, .int n)], [.int (nI 4), .int (nI 0)], S)) rfl ?_
  refine x_callS [.int (nI 0), .int (nI 4)] rfl cs_N_isBelow.1 lk_6_73 cs_N_isBelow.2.1 rfl rfl (Nat.le_of_ble_eq_true rfl) (by decide) cs_N_isBelow.2.2 (c_isBelow S (nI 0) (nI 4)) ?_
  rintro r u ⟨hr, hu⟩
  rw [hr, hu]
  clear hr hu r u
  refine x_ifB_ne 19 rfl rfl (fun h13 => ?_) (fun hn => absurd (inr_t (by decide) (by decide)) hn)
  refine run_ok 3 (c' := (24, [(0, .ref 0), (1, .int (nI 0)), (2, .int a), (3, .int (nI 0)), (4, .int b), (5, .int n)], [.int (nI 0), .ref 37], S)) rfl ?_
  refine x_aald (t := 38) rfl rfl (vp_in_nI (by decide) (by decide)) (by decide) ?_
  refine run_ok 4 (c' := (32, [(0, .ref 0), (1, .int (nI 0)), (2, .int a), (3, .int (nI 0)), (4, .int b), (5, .int n), (6, .ref 38)], [.int (nI 0), .ref 37], S)) rfl ?_
  refine x_aald (t := 38) rfl rfl (vp_in_nI (by decide) (by decide)) (by decide) ?_
  refine run_ok 3 (c' := (40, [(0, .ref 0), (1, .int (nI 0)), (2, .int a), (3, .int (nI 0)), (4, .int b), (5, .int n), (6, .ref 38), (7, .ref 38)], [.int (S.1 38 3)], S)) rfl ?_
  refine x_top (v' := nI lo) g3 ?_
  refine x_ifN_ne 51 rfl rfl (by omega) (fun hn => absurd hz1 hn) (fun h40 => ?_)
  refine run_ok 2 (c' := (48, [(0, .ref 0), (1, .int (nI 0)), (2, .int a), (3, .int (nI 0)), (4, .int b), (5, .int n), (6, .ref 38), (7, .ref 38)], [.int (S.1 38 3)], S)) rfl ?_
  refine x_top (v' := nI lo) g3 ?_
  refine x_ifN_eq 57 rfl rfl (by omega) (fun h48 => ?_) (fun hn => absurd hz2 hn)
  refine run_ok 2 (c' := (62, [(0, .ref 0), (1, .int (nI 0)), (2, .int a), (3, .int (nI 0)), (4, .int b), (5, .int n), (6, .ref 38), (7, .ref 38)], [.int (S.1 38 1)], S)) rfl ?_
  refine x_top (v' := nI fm) g1 ?_
  refine run_ok 2 (c' := (67, [(0, .ref 0), (1, .int (nI 0)), (2, .int a), (3, .int (nI 0)), (4, .int b), (5, .int n), (6, .ref 38), (7, .ref 38)], [.int (S.1 38 1), .int (nI fm)], S)) rfl ?_
  refine x_top (v' := nI fm) g1 ?_
  refine x_icmpN_eq 76 rfl rfl (by omega) (by omega) (fun h67 => ?_) (fun hn => absurd hst hn)
  refine run_ok 3 (c' := (81, [(0, .ref 0), (1, .int (nI 0)), (2, .int a), (3, .int (nI 0)), (4, .int b), (5, .int n), (6, .ref 38), (7, .ref 38)], [.int n, .int a, .ref 38], S)) rfl ?_
  refine x_callV [.int a, .int n] rfl cv_H_hasItems.1 lk_6_265 cv_H_hasItems.2.1 cv_H_hasItems.2.2.1 rfl cv_H_hasItems.2.2.2.1 rfl rfl (Nat.le_of_ble_eq_true rfl) (by decide) cv_H_hasItems.2.2.2.2 (c_hasItems0 S lo fm sz hH (a) (n)) ?_
  rintro r x ⟨hr, hu⟩
  rw [hr, hu]
  clear hr hu r x
  refine x_ifB_eq 99 rfl rfl (fun h84 => ?_) (fun h84 => ?_)
  · refine run_ok 2 (c' := (101, [(0, .ref 0), (1, .int (nI 0)), (2, .int a), (3, .int (nI 0)), (4, .int b), (5, .int n), (6, .ref 38), (7, .ref 38)], [.int (nI 2), .ref 0], S)) rfl ?_
    refine x_callV [.int (nI 2)] rfl cv_N_find.1 lk_6_134 cv_N_find.2.1 cv_N_find.2.2.1 rfl cv_N_find.2.2.2.1 rfl rfl (Nat.le_of_ble_eq_true rfl) (by decide) cv_N_find.2.2.2.2 (c_find S (2)) ?_
    rintro r x ⟨hr, hu⟩
    rw [hr, hu]
    clear hr hu r x
    exact x_ret (r := some (.int ((-10) - nI 2))) rfl rfl trivial ⟨rfl, rfl⟩ rfl
  · refine run_ok 3 (c' := (93, [(0, .ref 0), (1, .int (nI 0)), (2, .int a), (3, .int (nI 0)), (4, .int b), (5, .int n), (6, .ref 38), (7, .ref 38)], [.int n, .int b, .ref 38], S)) rfl ?_
    refine x_callV [.int b, .int n] rfl cv_H_hasItems.1 lk_6_265 cv_H_hasItems.2.1 cv_H_hasItems.2.2.1 rfl cv_H_hasItems.2.2.2.1 rfl rfl (Nat.le_of_ble_eq_true rfl) (by decide) cv_H_hasItems.2.2.2.2 (c_hasItems0 S lo fm sz hH (b) (n)) ?_
    rintro r x ⟨hr, hu⟩
    rw [hr, hu]
    clear hr hu r x
    refine x_ifB_ne 105 rfl rfl (fun h96 => ?_) (fun h96 => ?_)
    · exact absurd ⟨h84, h96⟩ hix
    · refine run_ok 2 (c' := (101, [(0, .ref 0), (1, .int (nI 0)), (2, .int a), (3, .int (nI 0)), (4, .int b), (5, .int n), (6, .ref 38), (7, .ref 38)], [.int (nI 2), .ref 0], S)) rfl ?_
      refine x_callV [.int (nI 2)] rfl cv_N_find.1 lk_6_134 cv_N_find.2.1 cv_N_find.2.2.1 rfl cv_N_find.2.2.2.1 rfl rfl (Nat.le_of_ble_eq_true rfl) (by decide) cv_N_find.2.2.2.2 (c_find S (2)) ?_
      rintro r x ⟨hr, hu⟩
      rw [hr, hu]
      clear hr hu r x
      exact x_ret (r := some (.int ((-10) - nI 2))) rfl rfl trivial ⟨rfl, rfl⟩ rfl

set_option maxHeartbeats 2000000 in
theorem c_copy_ok00 (S : ST) (lo fm sz : Nat) (hH : HR 38 lo fm sz S) (a b n : Nat) (hz1 : lo = 0) (hz2 : lo = 0) (ha : a + n ≤ sz) (hb : b + n ≤ sz) : EX me_N_copy 2 [.ref 0, .int (nI 0), .int (nI a), .int (nI 0), .int (nI b), .int (nI n)] S (fun r u => r = some (.int 1) ∧ u = rwr S 39 (va_cpy (S.1 39) (S.1 39) a b n)) := by
  refine EX.of mok_N_copy (Nat.le_of_ble_eq_true rfl) ?_
  obtain ⟨g3, g1, g2, hl1, hf2, hs60⟩ := id hH
  have hst : fm = fm := rfl
  refine run_ok 2 (c' := (2, [(0, .ref 0), (1, .int (nI 0)), (2, .int (nI a)), (3, .int (nI 0)), (4, .int (nI b)), (5, .int (nI n))], [.int (nI 4), .int (nI 0)], S)) rfl ?_
  refine x_callS [.int (nI 0), .int (nI 4)] rfl cs_N_isBelow.1 lk_6_73 cs_N_isBelow.2.1 rfl rfl (Nat.le_of_ble_eq_true rfl) (by decide) cs_N_isBelow.2.2 (c_isBelow S (nI 0) (nI 4)) ?_
  rintro r u ⟨hr, hu⟩
  rw [hr, hu]
  clear hr hu r u
  refine x_ifB_eq 16 rfl rfl (fun hn => absurd hn (fun z => z (inr_t (by decide) (by decide)))) (fun h5 => ?_)
  refine run_ok 2 (c' := (10, [(0, .ref 0), (1, .int (nI 0)), (2, .int (nI a)), (3, .int (nI 0)), (4, .int (nI b)), (5, .int (nI n))], [.int (nI 4), .int (nI 0)], S)) rfl ?_
  refine x_callS [.int (nI 0), .int (nI 4)] rfl cs_N_isBelow.1 lk_6_73 cs_N_isBelow.2.1 rfl rfl (Nat.le_of_ble_eq_true rfl) (by decide) cs_N_isBelow.2.2 (c_isBelow S (nI 0) (nI 4)) ?_
  rintro r u ⟨hr, hu⟩
  rw [hr, hu]
  clear hr hu r u
  refine x_ifB_ne 19 rfl rfl (fun h13 => ?_) (fun hn => absurd (inr_t (by decide) (by decide)) hn)
  refine run_ok 3 (c' := (24, [(0, .ref 0), (1, .int (nI 0)), (2, .int (nI a)), (3, .int (nI 0)), (4, .int (nI b)), (5, .int (nI n))], [.int (nI 0), .ref 37], S)) rfl ?_
  refine x_aald (t := 38) rfl rfl (vp_in_nI (by decide) (by decide)) (by decide) ?_
  refine run_ok 4 (c' := (32, [(0, .ref 0), (1, .int (nI 0)), (2, .int (nI a)), (3, .int (nI 0)), (4, .int (nI b)), (5, .int (nI n)), (6, .ref 38)], [.int (nI 0), .ref 37], S)) rfl ?_
  refine x_aald (t := 38) rfl rfl (vp_in_nI (by decide) (by decide)) (by decide) ?_
  refine run_ok 3 (c' := (40, [(0, .ref 0), (1, .int (nI 0)), (2, .int (nI a)), (3, .int (nI 0)), (4, .int (nI b)), (5, .int (nI n)), (6, .ref 38), (7, .ref 38)], [.int (S.1 38 3)], S)) rfl ?_
  refine x_top (v' := nI lo) g3 ?_
  refine x_ifN_ne 51 rfl rfl (by omega) (fun hn => absurd hz1 hn) (fun h40 => ?_)
  refine run_ok 2 (c' := (48, [(0, .ref 0), (1, .int (nI 0)), (2, .int (nI a)), (3, .int (nI 0)), (4, .int (nI b)), (5, .int (nI n)), (6, .ref 38), (7, .ref 38)], [.int (S.1 38 3)], S)) rfl ?_
  refine x_top (v' := nI lo) g3 ?_
  refine x_ifN_eq 57 rfl rfl (by omega) (fun h48 => ?_) (fun hn => absurd hz2 hn)
  refine run_ok 2 (c' := (62, [(0, .ref 0), (1, .int (nI 0)), (2, .int (nI a)), (3, .int (nI 0)), (4, .int (nI b)), (5, .int (nI n)), (6, .ref 38), (7, .ref 38)], [.int (S.1 38 1)], S)) rfl ?_
  refine x_top (v' := nI fm) g1 ?_
  refine run_ok 2 (c' := (67, [(0, .ref 0), (1, .int (nI 0)), (2, .int (nI a)), (3, .int (nI 0)), (4, .int (nI b)), (5, .int (nI n)), (6, .ref 38), (7, .ref 38)], [.int (S.1 38 1), .int (nI fm)], S)) rfl ?_
  refine x_top (v' := nI fm) g1 ?_
  refine x_icmpN_eq 76 rfl rfl (by omega) (by omega) (fun h67 => ?_) (fun hn => absurd hst hn)
  refine run_ok 3 (c' := (81, [(0, .ref 0), (1, .int (nI 0)), (2, .int (nI a)), (3, .int (nI 0)), (4, .int (nI b)), (5, .int (nI n)), (6, .ref 38), (7, .ref 38)], [.int (nI n), .int (nI a), .ref 38], S)) rfl ?_
  refine x_callV [.int (nI a), .int (nI n)] rfl cv_H_hasItems.1 lk_6_265 cv_H_hasItems.2.1 cv_H_hasItems.2.2.1 rfl cv_H_hasItems.2.2.2.1 rfl rfl (Nat.le_of_ble_eq_true rfl) (by decide) cv_H_hasItems.2.2.2.2 (c_hasItems0 S lo fm sz hH (nI a) (nI n)) ?_
  rintro r x ⟨hr, hu⟩
  rw [hr, hu]
  clear hr hu r x
  refine x_ifB_eq 99 rfl rfl (fun hn => absurd hn (fun z => z (hasI_t ha hs60))) (fun h84 => ?_)
  refine run_ok 3 (c' := (93, [(0, .ref 0), (1, .int (nI 0)), (2, .int (nI a)), (3, .int (nI 0)), (4, .int (nI b)), (5, .int (nI n)), (6, .ref 38), (7, .ref 38)], [.int (nI n), .int (nI b), .ref 38], S)) rfl ?_
  refine x_callV [.int (nI b), .int (nI n)] rfl cv_H_hasItems.1 lk_6_265 cv_H_hasItems.2.1 cv_H_hasItems.2.2.1 rfl cv_H_hasItems.2.2.2.1 rfl rfl (Nat.le_of_ble_eq_true rfl) (by decide) cv_H_hasItems.2.2.2.2 (c_hasItems0 S lo fm sz hH (nI b) (nI n)) ?_
  rintro r x ⟨hr, hu⟩
  rw [hr, hu]
  clear hr hu r x
  refine x_ifB_ne 105 rfl rfl (fun h96 => ?_) (fun hn => absurd (hasI_t hb hs60) hn)
  refine run_ok 7 (c' := (120, [(0, .ref 0), (1, .int (nI 0)), (2, .int (nI a)), (3, .int (nI 0)), (4, .int (nI b)), (5, .int (nI n)), (6, .ref 38), (7, .ref 38)], [.int (nI n), .int (nI b), .ref 39, .int (nI a), .ref 39], S)) rfl ?_
  refine x_copyN rfl lk_6_268 rfl rfl (by decide) (by decide) (by omega) (by omega) (Nat.le_of_ble_eq_true rfl) (by decide) ?_
  refine run_ok 1 (c' := (124, [(0, .ref 0), (1, .int (nI 0)), (2, .int (nI a)), (3, .int (nI 0)), (4, .int (nI b)), (5, .int (nI n)), (6, .ref 38), (7, .ref 38)], [.int (nI 1)], (rwr S 39 (va_cpy (S.1 39) (S.1 39) a b n)))) rfl ?_
  exact x_ret (r := some (.int (nI 1))) rfl rfl trivial ⟨rfl, rfl⟩ rfl

set_option maxHeartbeats 2000000 in
theorem c_copy_null01 (S : ST) (lo fm sz : Nat) (hH : HR 38 lo fm sz S) (lo2 fm2 sz2 : Nat) (hH2 : HR 40 lo2 fm2 sz2 S) (a b n : Int32) (hnl : ¬ (lo = 0 ∧ lo2 = 0)) : EX me_N_copy 2 [.ref 0, .int (nI 0), .int a, .int (nI 1), .int b, .int n] S (fun r u => r = some (.int ((-10) - nI 1)) ∧ u = pt S 0 10 (nI 1)) := by
  refine EX.of mok_N_copy (Nat.le_of_ble_eq_true rfl) ?_
  obtain ⟨g3, g1, g2, hl1, hf2, hs60⟩ := id hH
  obtain ⟨p3, p1, p2, pl1, pf2, ps60⟩ := id hH2
  refine run_ok 2 (c' := (2, [(0, .ref 0), (1, .int (nI 0)), (2, .int a), (3, .int (nI 1)), (4, .int b), (5, .int n)], [.int (nI 4), .int (nI 0)], S)) rfl ?_
  refine x_callS [.int (nI 0), .int (nI 4)] rfl cs_N_isBelow.1 lk_6_73 cs_N_isBelow.2.1 rfl rfl (Nat.le_of_ble_eq_true rfl) (by decide) cs_N_isBelow.2.2 (c_isBelow S (nI 0) (nI 4)) ?_
  rintro r u ⟨hr, hu⟩
  rw [hr, hu]
  clear hr hu r u
  refine x_ifB_eq 16 rfl rfl (fun hn => absurd hn (fun z => z (inr_t (by decide) (by decide)))) (fun h5 => ?_)
  refine run_ok 2 (c' := (10, [(0, .ref 0), (1, .int (nI 0)), (2, .int a), (3, .int (nI 1)), (4, .int b), (5, .int n)], [.int (nI 4), .int (nI 1)], S)) rfl ?_
  refine x_callS [.int (nI 1), .int (nI 4)] rfl cs_N_isBelow.1 lk_6_73 cs_N_isBelow.2.1 rfl rfl (Nat.le_of_ble_eq_true rfl) (by decide) cs_N_isBelow.2.2 (c_isBelow S (nI 1) (nI 4)) ?_
  rintro r u ⟨hr, hu⟩
  rw [hr, hu]
  clear hr hu r u
  refine x_ifB_ne 19 rfl rfl (fun h13 => ?_) (fun hn => absurd (inr_t (by decide) (by decide)) hn)
  refine run_ok 3 (c' := (24, [(0, .ref 0), (1, .int (nI 0)), (2, .int a), (3, .int (nI 1)), (4, .int b), (5, .int n)], [.int (nI 0), .ref 37], S)) rfl ?_
  refine x_aald (t := 38) rfl rfl (vp_in_nI (by decide) (by decide)) (by decide) ?_
  refine run_ok 4 (c' := (32, [(0, .ref 0), (1, .int (nI 0)), (2, .int a), (3, .int (nI 1)), (4, .int b), (5, .int n), (6, .ref 38)], [.int (nI 1), .ref 37], S)) rfl ?_
  refine x_aald (t := 40) rfl rfl (vp_in_nI (by decide) (by decide)) (by decide) ?_
  refine run_ok 3 (c' := (40, [(0, .ref 0), (1, .int (nI 0)), (2, .int a), (3, .int (nI 1)), (4, .int b), (5, .int n), (6, .ref 38), (7, .ref 40)], [.int (S.1 38 3)], S)) rfl ?_
  refine x_top (v' := nI lo) g3 ?_
  refine x_ifN_ne 51 rfl rfl (by omega) (fun h40 => ?_) (fun h40 => ?_)
  · refine run_ok 2 (c' := (53, [(0, .ref 0), (1, .int (nI 0)), (2, .int a), (3, .int (nI 1)), (4, .int b), (5, .int n), (6, .ref 38), (7, .ref 40)], [.int (nI 1), .ref 0], S)) rfl ?_
    refine x_callV [.int (nI 1)] rfl cv_N_find.1 lk_6_134 cv_N_find.2.1 cv_N_find.2.2.1 rfl cv_N_find.2.2.2.1 rfl rfl (Nat.le_of_ble_eq_true rfl) (by decide) cv_N_find.2.2.2.2 (c_find S (1)) ?_
    rintro r x ⟨hr, hu⟩
    rw [hr, hu]
    clear hr hu r x
    exact x_ret (r := some (.int ((-10) - nI 1))) rfl rfl trivial ⟨rfl, rfl⟩ rfl
  · refine run_ok 2 (c' := (48, [(0, .ref 0), (1, .int (nI 0)), (2, .int a), (3, .int (nI 1)), (4, .int b), (5, .int n), (6, .ref 38), (7, .ref 40)], [.int (S.1 40 3)], S)) rfl ?_
    refine x_top (v' := nI lo2) p3 ?_
    refine x_ifN_eq 57 rfl rfl (by omega) (fun h48 => ?_) (fun h48 => ?_)
    · exact absurd hnl (by omega)
    · refine run_ok 2 (c' := (53, [(0, .ref 0), (1, .int (nI 0)), (2, .int a), (3, .int (nI 1)), (4, .int b), (5, .int n), (6, .ref 38), (7, .ref 40)], [.int (nI 1), .ref 0], S)) rfl ?_
      refine x_callV [.int (nI 1)] rfl cv_N_find.1 lk_6_134 cv_N_find.2.1 cv_N_find.2.2.1 rfl cv_N_find.2.2.2.1 rfl rfl (Nat.le_of_ble_eq_true rfl) (by decide) cv_N_find.2.2.2.2 (c_find S (1)) ?_
      rintro r x ⟨hr, hu⟩
      rw [hr, hu]
      clear hr hu r x
      exact x_ret (r := some (.int ((-10) - nI 1))) rfl rfl trivial ⟨rfl, rfl⟩ rfl

set_option maxHeartbeats 2000000 in
theorem c_copy_store01 (S : ST) (lo fm sz : Nat) (hH : HR 38 lo fm sz S) (lo2 fm2 sz2 : Nat) (hH2 : HR 40 lo2 fm2 sz2 S) (a b n : Int32) (hz1 : lo = 0) (hz2 : lo2 = 0) (hst : ¬ fm = fm2) : EX me_N_copy 2 [.ref 0, .int (nI 0), .int a, .int (nI 1), .int b, .int n] S (fun r u => r = some (.int ((-10) - nI 4)) ∧ u = pt S 0 10 (nI 4)) := by
  refine EX.of mok_N_copy (Nat.le_of_ble_eq_true rfl) ?_
  obtain ⟨g3, g1, g2, hl1, hf2, hs60⟩ := id hH
  obtain ⟨p3, p1, p2, pl1, pf2, ps60⟩ := id hH2
  refine run_ok 2 (c' := (2, [(0, .ref 0), (1, .int (nI 0)), (2, .int a), (3, .int (nI 1)), (4, .int b), (5, .int n)], [.int (nI 4), .int (nI 0)], S)) rfl ?_
  refine x_callS [.int (nI 0), .int (nI 4)] rfl cs_N_isBelow.1 lk_6_73 cs_N_isBelow.2.1 rfl rfl (Nat.le_of_ble_eq_true rfl) (by decide) cs_N_isBelow.2.2 (c_isBelow S (nI 0) (nI 4)) ?_
  rintro r u ⟨hr, hu⟩
  rw [hr, hu]
  clear hr hu r u
  refine x_ifB_eq 16 rfl rfl (fun hn => absurd hn (fun z => z (inr_t (by decide) (by decide)))) (fun h5 => ?_)
  refine run_ok 2 (c' := (10, [(0, .ref 0), (1, .int (nI 0)), (2, .int a), (3, .int (nI 1)), (4, .int b), (5, .int n)], [.int (nI 4), .int (nI 1)], S)) rfl ?_
  refine x_callS [.int (nI 1), .int (nI 4)] rfl cs_N_isBelow.1 lk_6_73 cs_N_isBelow.2.1 rfl rfl (Nat.le_of_ble_eq_true rfl) (by decide) cs_N_isBelow.2.2 (c_isBelow S (nI 1) (nI 4)) ?_
  rintro r u ⟨hr, hu⟩
  rw [hr, hu]
  clear hr hu r u
  refine x_ifB_ne 19 rfl rfl (fun h13 => ?_) (fun hn => absurd (inr_t (by decide) (by decide)) hn)
  refine run_ok 3 (c' := (24, [(0, .ref 0), (1, .int (nI 0)), (2, .int a), (3, .int (nI 1)), (4, .int b), (5, .int n)], [.int (nI 0), .ref 37], S)) rfl ?_
  refine x_aald (t := 38) rfl rfl (vp_in_nI (by decide) (by decide)) (by decide) ?_
  refine run_ok 4 (c' := (32, [(0, .ref 0), (1, .int (nI 0)), (2, .int a), (3, .int (nI 1)), (4, .int b), (5, .int n), (6, .ref 38)], [.int (nI 1), .ref 37], S)) rfl ?_
  refine x_aald (t := 40) rfl rfl (vp_in_nI (by decide) (by decide)) (by decide) ?_
  refine run_ok 3 (c' := (40, [(0, .ref 0), (1, .int (nI 0)), (2, .int a), (3, .int (nI 1)), (4, .int b), (5, .int n), (6, .ref 38), (7, .ref 40)], [.int (S.1 38 3)], S)) rfl ?_
  refine x_top (v' := nI lo) g3 ?_
  refine x_ifN_ne 51 rfl rfl (by omega) (fun hn => absurd hz1 hn) (fun h40 => ?_)
  refine run_ok 2 (c' := (48, [(0, .ref 0), (1, .int (nI 0)), (2, .int a), (3, .int (nI 1)), (4, .int b), (5, .int n), (6, .ref 38), (7, .ref 40)], [.int (S.1 40 3)], S)) rfl ?_
  refine x_top (v' := nI lo2) p3 ?_
  refine x_ifN_eq 57 rfl rfl (by omega) (fun h48 => ?_) (fun hn => absurd hz2 hn)
  refine run_ok 2 (c' := (62, [(0, .ref 0), (1, .int (nI 0)), (2, .int a), (3, .int (nI 1)), (4, .int b), (5, .int n), (6, .ref 38), (7, .ref 40)], [.int (S.1 38 1)], S)) rfl ?_
  refine x_top (v' := nI fm) g1 ?_
  refine run_ok 2 (c' := (67, [(0, .ref 0), (1, .int (nI 0)), (2, .int a), (3, .int (nI 1)), (4, .int b), (5, .int n), (6, .ref 38), (7, .ref 40)], [.int (S.1 40 1), .int (nI fm)], S)) rfl ?_
  refine x_top (v' := nI fm2) p1 ?_
  refine x_icmpN_eq 76 rfl rfl (by omega) (by omega) (fun hn => absurd hn hst) (fun h67 => ?_)
  refine run_ok 2 (c' := (72, [(0, .ref 0), (1, .int (nI 0)), (2, .int a), (3, .int (nI 1)), (4, .int b), (5, .int n), (6, .ref 38), (7, .ref 40)], [.int (nI 4), .ref 0], S)) rfl ?_
  refine x_callV [.int (nI 4)] rfl cv_N_find.1 lk_6_134 cv_N_find.2.1 cv_N_find.2.2.1 rfl cv_N_find.2.2.2.1 rfl rfl (Nat.le_of_ble_eq_true rfl) (by decide) cv_N_find.2.2.2.2 (c_find S (4)) ?_
  rintro r x ⟨hr, hu⟩
  rw [hr, hu]
  clear hr hu r x
  exact x_ret (r := some (.int ((-10) - nI 4))) rfl rfl trivial ⟨rfl, rfl⟩ rfl

set_option maxHeartbeats 2000000 in
theorem c_copy_index01 (S : ST) (lo fm sz : Nat) (hH : HR 38 lo fm sz S) (lo2 fm2 sz2 : Nat) (hH2 : HR 40 lo2 fm2 sz2 S) (a b n : Int32) (hz1 : lo = 0) (hz2 : lo2 = 0) (hst : fm = fm2) (hix : ¬ (hasI sz a n ∧ hasI sz2 b n)) : EX me_N_copy 2 [.ref 0, .int (nI 0), .int a, .int (nI 1), .int b, .int n] S (fun r u => r = some (.int ((-10) - nI 2)) ∧ u = pt S 0 10 (nI 2)) := by
  refine EX.of mok_N_copy (Nat.le_of_ble_eq_true rfl) ?_
  obtain ⟨g3, g1, g2, hl1, hf2, hs60⟩ := id hH
  obtain ⟨p3, p1, p2, pl1, pf2, ps60⟩ := id hH2
  refine run_ok 2 (c' := (2, [(0, .ref 0), (1, .int (nI 0)), (2, .int a), (3, .int (nI 1)), (4, .int b), (5, .int n)], [.int (nI 4), .int (nI 0)], S)) rfl ?_
  refine x_callS [.int (nI 0), .int (nI 4)] rfl cs_N_isBelow.1 lk_6_73 cs_N_isBelow.2.1 rfl rfl (Nat.le_of_ble_eq_true rfl) (by decide) cs_N_isBelow.2.2 (c_isBelow S (nI 0) (nI 4)) ?_
  rintro r u ⟨hr, hu⟩
  rw [hr, hu]
  clear hr hu r u
  refine x_ifB_eq 16 rfl rfl (fun hn => absurd hn (fun z => z (inr_t (by decide) (by decide)))) (fun h5 => ?_)
  refine run_ok 2 (c' := (10, [(0, .ref 0), (1, .int (nI 0)), (2, .int a), (3, .int (nI 1)), (4, .int b), (5, .int n)], [.int (nI 4), .int (nI 1)], S)) rfl ?_
  refine x_callS [.int (nI 1), .int (nI 4)] rfl cs_N_isBelow.1 lk_6_73 cs_N_isBelow.2.1 rfl rfl (Nat.le_of_ble_eq_true rfl) (by decide) cs_N_isBelow.2.2 (c_isBelow S (nI 1) (nI 4)) ?_
  rintro r u ⟨hr, hu⟩
  rw [hr, hu]
  clear hr hu r u
  refine x_ifB_ne 19 rfl rfl (fun h13 => ?_) (fun hn => absurd (inr_t (by decide) (by decide)) hn)
  refine run_ok 3 (c' := (24, [(0, .ref 0), (1, .int (nI 0)), (2, .int a), (3, .int (nI 1)), (4, .int b), (5, .int n)], [.int (nI 0), .ref 37], S)) rfl ?_
  refine x_aald (t := 38) rfl rfl (vp_in_nI (by decide) (by decide)) (by decide) ?_
  refine run_ok 4 (c' := (32, [(0, .ref 0), (1, .int (nI 0)), (2, .int a), (3, .int (nI 1)), (4, .int b), (5, .int n), (6, .ref 38)], [.int (nI 1), .ref 37], S)) rfl ?_
  refine x_aald (t := 40) rfl rfl (vp_in_nI (by decide) (by decide)) (by decide) ?_
  refine run_ok 3 (c' := (40, [(0, .ref 0), (1, .int (nI 0)), (2, .int a), (3, .int (nI 1)), (4, .int b), (5, .int n), (6, .ref 38), (7, .ref 40)], [.int (S.1 38 3)], S)) rfl ?_
  refine x_top (v' := nI lo) g3 ?_
  refine x_ifN_ne 51 rfl rfl (by omega) (fun hn => absurd hz1 hn) (fun h40 => ?_)
  refine run_ok 2 (c' := (48, [(0, .ref 0), (1, .int (nI 0)), (2, .int a), (3, .int (nI 1)), (4, .int b), (5, .int n), (6, .ref 38), (7, .ref 40)], [.int (S.1 40 3)], S)) rfl ?_
  refine x_top (v' := nI lo2) p3 ?_
  refine x_ifN_eq 57 rfl rfl (by omega) (fun h48 => ?_) (fun hn => absurd hz2 hn)
  refine run_ok 2 (c' := (62, [(0, .ref 0), (1, .int (nI 0)), (2, .int a), (3, .int (nI 1)), (4, .int b), (5, .int n), (6, .ref 38), (7, .ref 40)], [.int (S.1 38 1)], S)) rfl ?_
  refine x_top (v' := nI fm) g1 ?_
  refine run_ok 2 (c' := (67, [(0, .ref 0), (1, .int (nI 0)), (2, .int a), (3, .int (nI 1)), (4, .int b), (5, .int n), (6, .ref 38), (7, .ref 40)], [.int (S.1 40 1), .int (nI fm)], S)) rfl ?_
  refine x_top (v' := nI fm2) p1 ?_
  refine x_icmpN_eq 76 rfl rfl (by omega) (by omega) (fun h67 => ?_) (fun hn => absurd hst hn)
  refine run_ok 3 (c' := (81, [(0, .ref 0), (1, .int (nI 0)), (2, .int a), (3, .int (nI 1)), (4, .int b), (5, .int n), (6, .ref 38), (7, .ref 40)], [.int n, .int a, .ref 38], S)) rfl ?_
  refine x_callV [.int a, .int n] rfl cv_H_hasItems.1 lk_6_265 cv_H_hasItems.2.1 cv_H_hasItems.2.2.1 rfl cv_H_hasItems.2.2.2.1 rfl rfl (Nat.le_of_ble_eq_true rfl) (by decide) cv_H_hasItems.2.2.2.2 (c_hasItems0 S lo fm sz hH (a) (n)) ?_
  rintro r x ⟨hr, hu⟩
  rw [hr, hu]
  clear hr hu r x
  refine x_ifB_eq 99 rfl rfl (fun h84 => ?_) (fun h84 => ?_)
  · refine run_ok 2 (c' := (101, [(0, .ref 0), (1, .int (nI 0)), (2, .int a), (3, .int (nI 1)), (4, .int b), (5, .int n), (6, .ref 38), (7, .ref 40)], [.int (nI 2), .ref 0], S)) rfl ?_
    refine x_callV [.int (nI 2)] rfl cv_N_find.1 lk_6_134 cv_N_find.2.1 cv_N_find.2.2.1 rfl cv_N_find.2.2.2.1 rfl rfl (Nat.le_of_ble_eq_true rfl) (by decide) cv_N_find.2.2.2.2 (c_find S (2)) ?_
    rintro r x ⟨hr, hu⟩
    rw [hr, hu]
    clear hr hu r x
    exact x_ret (r := some (.int ((-10) - nI 2))) rfl rfl trivial ⟨rfl, rfl⟩ rfl
  · refine run_ok 3 (c' := (93, [(0, .ref 0), (1, .int (nI 0)), (2, .int a), (3, .int (nI 1)), (4, .int b), (5, .int n), (6, .ref 38), (7, .ref 40)], [.int n, .int b, .ref 40], S)) rfl ?_
    refine x_callV [.int b, .int n] rfl cv_H_hasItems.1 lk_6_265 cv_H_hasItems.2.1 cv_H_hasItems.2.2.1 rfl cv_H_hasItems.2.2.2.1 rfl rfl (Nat.le_of_ble_eq_true rfl) (by decide) cv_H_hasItems.2.2.2.2 (c_hasItems1 S lo2 fm2 sz2 hH2 (b) (n)) ?_
    rintro r x ⟨hr, hu⟩
    rw [hr, hu]
    clear hr hu r x
    refine x_ifB_ne 105 rfl rfl (fun h96 => ?_) (fun h96 => ?_)
    · exact absurd ⟨h84, h96⟩ hix
    · refine run_ok 2 (c' := (101, [(0, .ref 0), (1, .int (nI 0)), (2, .int a), (3, .int (nI 1)), (4, .int b), (5, .int n), (6, .ref 38), (7, .ref 40)], [.int (nI 2), .ref 0], S)) rfl ?_
      refine x_callV [.int (nI 2)] rfl cv_N_find.1 lk_6_134 cv_N_find.2.1 cv_N_find.2.2.1 rfl cv_N_find.2.2.2.1 rfl rfl (Nat.le_of_ble_eq_true rfl) (by decide) cv_N_find.2.2.2.2 (c_find S (2)) ?_
      rintro r x ⟨hr, hu⟩
      rw [hr, hu]
      clear hr hu r x
      exact x_ret (r := some (.int ((-10) - nI 2))) rfl rfl trivial ⟨rfl, rfl⟩ rfl

set_option maxHeartbeats 2000000 in
theorem c_copy_ok01 (S : ST) (lo fm sz : Nat) (hH : HR 38 lo fm sz S) (lo2 fm2 sz2 : Nat) (hH2 : HR 40 lo2 fm2 sz2 S) (a b n : Nat) (hz1 : lo = 0) (hz2 : lo2 = 0) (hst : fm = fm2) (ha : a + n ≤ sz) (hb : b + n ≤ sz2) : EX me_N_copy 2 [.ref 0, .int (nI 0), .int (nI a), .int (nI 1), .int (nI b), .int (nI n)] S (fun r u => r = some (.int 1) ∧ u = rwr S 41 (va_cpy (S.1 39) (S.1 41) a b n)) := by
  refine EX.of mok_N_copy (Nat.le_of_ble_eq_true rfl) ?_
  obtain ⟨g3, g1, g2, hl1, hf2, hs60⟩ := id hH
  obtain ⟨p3, p1, p2, pl1, pf2, ps60⟩ := id hH2
  refine run_ok 2 (c' := (2, [(0, .ref 0), (1, .int (nI 0)), (2, .int (nI a)), (3, .int (nI 1)), (4, .int (nI b)), (5, .int (nI n))], [.int (nI 4), .int (nI 0)], S)) rfl ?_
  refine x_callS [.int (nI 0), .int (nI 4)] rfl cs_N_isBelow.1 lk_6_73 cs_N_isBelow.2.1 rfl rfl (Nat.le_of_ble_eq_true rfl) (by decide) cs_N_isBelow.2.2 (c_isBelow S (nI 0) (nI 4)) ?_
  rintro r u ⟨hr, hu⟩
  rw [hr, hu]
  clear hr hu r u
  refine x_ifB_eq 16 rfl rfl (fun hn => absurd hn (fun z => z (inr_t (by decide) (by decide)))) (fun h5 => ?_)
  refine run_ok 2 (c' := (10, [(0, .ref 0), (1, .int (nI 0)), (2, .int (nI a)), (3, .int (nI 1)), (4, .int (nI b)), (5, .int (nI n))], [.int (nI 4), .int (nI 1)], S)) rfl ?_
  refine x_callS [.int (nI 1), .int (nI 4)] rfl cs_N_isBelow.1 lk_6_73 cs_N_isBelow.2.1 rfl rfl (Nat.le_of_ble_eq_true rfl) (by decide) cs_N_isBelow.2.2 (c_isBelow S (nI 1) (nI 4)) ?_
  rintro r u ⟨hr, hu⟩
  rw [hr, hu]
  clear hr hu r u
  refine x_ifB_ne 19 rfl rfl (fun h13 => ?_) (fun hn => absurd (inr_t (by decide) (by decide)) hn)
  refine run_ok 3 (c' := (24, [(0, .ref 0), (1, .int (nI 0)), (2, .int (nI a)), (3, .int (nI 1)), (4, .int (nI b)), (5, .int (nI n))], [.int (nI 0), .ref 37], S)) rfl ?_
  refine x_aald (t := 38) rfl rfl (vp_in_nI (by decide) (by decide)) (by decide) ?_
  refine run_ok 4 (c' := (32, [(0, .ref 0), (1, .int (nI 0)), (2, .int (nI a)), (3, .int (nI 1)), (4, .int (nI b)), (5, .int (nI n)), (6, .ref 38)], [.int (nI 1), .ref 37], S)) rfl ?_
  refine x_aald (t := 40) rfl rfl (vp_in_nI (by decide) (by decide)) (by decide) ?_
  refine run_ok 3 (c' := (40, [(0, .ref 0), (1, .int (nI 0)), (2, .int (nI a)), (3, .int (nI 1)), (4, .int (nI b)), (5, .int (nI n)), (6, .ref 38), (7, .ref 40)], [.int (S.1 38 3)], S)) rfl ?_
  refine x_top (v' := nI lo) g3 ?_
  refine x_ifN_ne 51 rfl rfl (by omega) (fun hn => absurd hz1 hn) (fun h40 => ?_)
  refine run_ok 2 (c' := (48, [(0, .ref 0), (1, .int (nI 0)), (2, .int (nI a)), (3, .int (nI 1)), (4, .int (nI b)), (5, .int (nI n)), (6, .ref 38), (7, .ref 40)], [.int (S.1 40 3)], S)) rfl ?_
  refine x_top (v' := nI lo2) p3 ?_
  refine x_ifN_eq 57 rfl rfl (by omega) (fun h48 => ?_) (fun hn => absurd hz2 hn)
  refine run_ok 2 (c' := (62, [(0, .ref 0), (1, .int (nI 0)), (2, .int (nI a)), (3, .int (nI 1)), (4, .int (nI b)), (5, .int (nI n)), (6, .ref 38), (7, .ref 40)], [.int (S.1 38 1)], S)) rfl ?_
  refine x_top (v' := nI fm) g1 ?_
  refine run_ok 2 (c' := (67, [(0, .ref 0), (1, .int (nI 0)), (2, .int (nI a)), (3, .int (nI 1)), (4, .int (nI b)), (5, .int (nI n)), (6, .ref 38), (7, .ref 40)], [.int (S.1 40 1), .int (nI fm)], S)) rfl ?_
  refine x_top (v' := nI fm2) p1 ?_
  refine x_icmpN_eq 76 rfl rfl (by omega) (by omega) (fun h67 => ?_) (fun hn => absurd hst hn)
  refine run_ok 3 (c' := (81, [(0, .ref 0), (1, .int (nI 0)), (2, .int (nI a)), (3, .int (nI 1)), (4, .int (nI b)), (5, .int (nI n)), (6, .ref 38), (7, .ref 40)], [.int (nI n), .int (nI a), .ref 38], S)) rfl ?_
  refine x_callV [.int (nI a), .int (nI n)] rfl cv_H_hasItems.1 lk_6_265 cv_H_hasItems.2.1 cv_H_hasItems.2.2.1 rfl cv_H_hasItems.2.2.2.1 rfl rfl (Nat.le_of_ble_eq_true rfl) (by decide) cv_H_hasItems.2.2.2.2 (c_hasItems0 S lo fm sz hH (nI a) (nI n)) ?_
  rintro r x ⟨hr, hu⟩
  rw [hr, hu]
  clear hr hu r x
  refine x_ifB_eq 99 rfl rfl (fun hn => absurd hn (fun z => z (hasI_t ha hs60))) (fun h84 => ?_)
  refine run_ok 3 (c' := (93, [(0, .ref 0), (1, .int (nI 0)), (2, .int (nI a)), (3, .int (nI 1)), (4, .int (nI b)), (5, .int (nI n)), (6, .ref 38), (7, .ref 40)], [.int (nI n), .int (nI b), .ref 40], S)) rfl ?_
  refine x_callV [.int (nI b), .int (nI n)] rfl cv_H_hasItems.1 lk_6_265 cv_H_hasItems.2.1 cv_H_hasItems.2.2.1 rfl cv_H_hasItems.2.2.2.1 rfl rfl (Nat.le_of_ble_eq_true rfl) (by decide) cv_H_hasItems.2.2.2.2 (c_hasItems1 S lo2 fm2 sz2 hH2 (nI b) (nI n)) ?_
  rintro r x ⟨hr, hu⟩
  rw [hr, hu]
  clear hr hu r x
  refine x_ifB_ne 105 rfl rfl (fun h96 => ?_) (fun hn => absurd (hasI_t hb ps60) hn)
  refine run_ok 7 (c' := (120, [(0, .ref 0), (1, .int (nI 0)), (2, .int (nI a)), (3, .int (nI 1)), (4, .int (nI b)), (5, .int (nI n)), (6, .ref 38), (7, .ref 40)], [.int (nI n), .int (nI b), .ref 41, .int (nI a), .ref 39], S)) rfl ?_
  refine x_copyN rfl lk_6_268 rfl rfl (by decide) (by decide) (by omega) (by omega) (Nat.le_of_ble_eq_true rfl) (by decide) ?_
  refine run_ok 1 (c' := (124, [(0, .ref 0), (1, .int (nI 0)), (2, .int (nI a)), (3, .int (nI 1)), (4, .int (nI b)), (5, .int (nI n)), (6, .ref 38), (7, .ref 40)], [.int (nI 1)], (rwr S 41 (va_cpy (S.1 39) (S.1 41) a b n)))) rfl ?_
  exact x_ret (r := some (.int (nI 1))) rfl rfl trivial ⟨rfl, rfl⟩ rfl

set_option maxHeartbeats 2000000 in
theorem c_copy_null02 (S : ST) (lo fm sz : Nat) (hH : HR 38 lo fm sz S) (lo2 fm2 sz2 : Nat) (hH2 : HR 42 lo2 fm2 sz2 S) (a b n : Int32) (hnl : ¬ (lo = 0 ∧ lo2 = 0)) : EX me_N_copy 2 [.ref 0, .int (nI 0), .int a, .int (nI 2), .int b, .int n] S (fun r u => r = some (.int ((-10) - nI 1)) ∧ u = pt S 0 10 (nI 1)) := by
  refine EX.of mok_N_copy (Nat.le_of_ble_eq_true rfl) ?_
  obtain ⟨g3, g1, g2, hl1, hf2, hs60⟩ := id hH
  obtain ⟨p3, p1, p2, pl1, pf2, ps60⟩ := id hH2
  refine run_ok 2 (c' := (2, [(0, .ref 0), (1, .int (nI 0)), (2, .int a), (3, .int (nI 2)), (4, .int b), (5, .int n)], [.int (nI 4), .int (nI 0)], S)) rfl ?_
  refine x_callS [.int (nI 0), .int (nI 4)] rfl cs_N_isBelow.1 lk_6_73 cs_N_isBelow.2.1 rfl rfl (Nat.le_of_ble_eq_true rfl) (by decide) cs_N_isBelow.2.2 (c_isBelow S (nI 0) (nI 4)) ?_
  rintro r u ⟨hr, hu⟩
  rw [hr, hu]
  clear hr hu r u
  refine x_ifB_eq 16 rfl rfl (fun hn => absurd hn (fun z => z (inr_t (by decide) (by decide)))) (fun h5 => ?_)
  refine run_ok 2 (c' := (10, [(0, .ref 0), (1, .int (nI 0)), (2, .int a), (3, .int (nI 2)), (4, .int b), (5, .int n)], [.int (nI 4), .int (nI 2)], S)) rfl ?_
  refine x_callS [.int (nI 2), .int (nI 4)] rfl cs_N_isBelow.1 lk_6_73 cs_N_isBelow.2.1 rfl rfl (Nat.le_of_ble_eq_true rfl) (by decide) cs_N_isBelow.2.2 (c_isBelow S (nI 2) (nI 4)) ?_
  rintro r u ⟨hr, hu⟩
  rw [hr, hu]
  clear hr hu r u
  refine x_ifB_ne 19 rfl rfl (fun h13 => ?_) (fun hn => absurd (inr_t (by decide) (by decide)) hn)
  refine run_ok 3 (c' := (24, [(0, .ref 0), (1, .int (nI 0)), (2, .int a), (3, .int (nI 2)), (4, .int b), (5, .int n)], [.int (nI 0), .ref 37], S)) rfl ?_
  refine x_aald (t := 38) rfl rfl (vp_in_nI (by decide) (by decide)) (by decide) ?_
  refine run_ok 4 (c' := (32, [(0, .ref 0), (1, .int (nI 0)), (2, .int a), (3, .int (nI 2)), (4, .int b), (5, .int n), (6, .ref 38)], [.int (nI 2), .ref 37], S)) rfl ?_
  refine x_aald (t := 42) rfl rfl (vp_in_nI (by decide) (by decide)) (by decide) ?_
  refine run_ok 3 (c' := (40, [(0, .ref 0), (1, .int (nI 0)), (2, .int a), (3, .int (nI 2)), (4, .int b), (5, .int n), (6, .ref 38), (7, .ref 42)], [.int (S.1 38 3)], S)) rfl ?_
  refine x_top (v' := nI lo) g3 ?_
  refine x_ifN_ne 51 rfl rfl (by omega) (fun h40 => ?_) (fun h40 => ?_)
  · refine run_ok 2 (c' := (53, [(0, .ref 0), (1, .int (nI 0)), (2, .int a), (3, .int (nI 2)), (4, .int b), (5, .int n), (6, .ref 38), (7, .ref 42)], [.int (nI 1), .ref 0], S)) rfl ?_
    refine x_callV [.int (nI 1)] rfl cv_N_find.1 lk_6_134 cv_N_find.2.1 cv_N_find.2.2.1 rfl cv_N_find.2.2.2.1 rfl rfl (Nat.le_of_ble_eq_true rfl) (by decide) cv_N_find.2.2.2.2 (c_find S (1)) ?_
    rintro r x ⟨hr, hu⟩
    rw [hr, hu]
    clear hr hu r x
    exact x_ret (r := some (.int ((-10) - nI 1))) rfl rfl trivial ⟨rfl, rfl⟩ rfl
  · refine run_ok 2 (c' := (48, [(0, .ref 0), (1, .int (nI 0)), (2, .int a), (3, .int (nI 2)), (4, .int b), (5, .int n), (6, .ref 38), (7, .ref 42)], [.int (S.1 42 3)], S)) rfl ?_
    refine x_top (v' := nI lo2) p3 ?_
    refine x_ifN_eq 57 rfl rfl (by omega) (fun h48 => ?_) (fun h48 => ?_)
    · exact absurd hnl (by omega)
    · refine run_ok 2 (c' := (53, [(0, .ref 0), (1, .int (nI 0)), (2, .int a), (3, .int (nI 2)), (4, .int b), (5, .int n), (6, .ref 38), (7, .ref 42)], [.int (nI 1), .ref 0], S)) rfl ?_
      refine x_callV [.int (nI 1)] rfl cv_N_find.1 lk_6_134 cv_N_find.2.1 cv_N_find.2.2.1 rfl cv_N_find.2.2.2.1 rfl rfl (Nat.le_of_ble_eq_true rfl) (by decide) cv_N_find.2.2.2.2 (c_find S (1)) ?_
      rintro r x ⟨hr, hu⟩
      rw [hr, hu]
      clear hr hu r x
      exact x_ret (r := some (.int ((-10) - nI 1))) rfl rfl trivial ⟨rfl, rfl⟩ rfl

set_option maxHeartbeats 2000000 in
theorem c_copy_store02 (S : ST) (lo fm sz : Nat) (hH : HR 38 lo fm sz S) (lo2 fm2 sz2 : Nat) (hH2 : HR 42 lo2 fm2 sz2 S) (a b n : Int32) (hz1 : lo = 0) (hz2 : lo2 = 0) (hst : ¬ fm = fm2) : EX me_N_copy 2 [.ref 0, .int (nI 0), .int a, .int (nI 2), .int b, .int n] S (fun r u => r = some (.int ((-10) - nI 4)) ∧ u = pt S 0 10 (nI 4)) := by
  refine EX.of mok_N_copy (Nat.le_of_ble_eq_true rfl) ?_
  obtain ⟨g3, g1, g2, hl1, hf2, hs60⟩ := id hH
  obtain ⟨p3, p1, p2, pl1, pf2, ps60⟩ := id hH2
  refine run_ok 2 (c' := (2, [(0, .ref 0), (1, .int (nI 0)), (2, .int a), (3, .int (nI 2)), (4, .int b), (5, .int n)], [.int (nI 4), .int (nI 0)], S)) rfl ?_
  refine x_callS [.int (nI 0), .int (nI 4)] rfl cs_N_isBelow.1 lk_6_73 cs_N_isBelow.2.1 rfl rfl (Nat.le_of_ble_eq_true rfl) (by decide) cs_N_isBelow.2.2 (c_isBelow S (nI 0) (nI 4)) ?_
  rintro r u ⟨hr, hu⟩
  rw [hr, hu]
  clear hr hu r u
  refine x_ifB_eq 16 rfl rfl (fun hn => absurd hn (fun z => z (inr_t (by decide) (by decide)))) (fun h5 => ?_)
  refine run_ok 2 (c' := (10, [(0, .ref 0), (1, .int (nI 0)), (2, .int a), (3, .int (nI 2)), (4, .int b), (5, .int n)], [.int (nI 4), .int (nI 2)], S)) rfl ?_
  refine x_callS [.int (nI 2), .int (nI 4)] rfl cs_N_isBelow.1 lk_6_73 cs_N_isBelow.2.1 rfl rfl (Nat.le_of_ble_eq_true rfl) (by decide) cs_N_isBelow.2.2 (c_isBelow S (nI 2) (nI 4)) ?_
  rintro r u ⟨hr, hu⟩
  rw [hr, hu]
  clear hr hu r u
  refine x_ifB_ne 19 rfl rfl (fun h13 => ?_) (fun hn => absurd (inr_t (by decide) (by decide)) hn)
  refine run_ok 3 (c' := (24, [(0, .ref 0), (1, .int (nI 0)), (2, .int a), (3, .int (nI 2)), (4, .int b), (5, .int n)], [.int (nI 0), .ref 37], S)) rfl ?_
  refine x_aald (t := 38) rfl rfl (vp_in_nI (by decide) (by decide)) (by decide) ?_
  refine run_ok 4 (c' := (32, [(0, .ref 0), (1, .int (nI 0)), (2, .int a), (3, .int (nI 2)), (4, .int b), (5, .int n), (6, .ref 38)], [.int (nI 2), .ref 37], S)) rfl ?_
  refine x_aald (t := 42) rfl rfl (vp_in_nI (by decide) (by decide)) (by decide) ?_
  refine run_ok 3 (c' := (40, [(0, .ref 0), (1, .int (nI 0)), (2, .int a), (3, .int (nI 2)), (4, .int b), (5, .int n), (6, .ref 38), (7, .ref 42)], [.int (S.1 38 3)], S)) rfl ?_
  refine x_top (v' := nI lo) g3 ?_
  refine x_ifN_ne 51 rfl rfl (by omega) (fun hn => absurd hz1 hn) (fun h40 => ?_)
  refine run_ok 2 (c' := (48, [(0, .ref 0), (1, .int (nI 0)), (2, .int a), (3, .int (nI 2)), (4, .int b), (5, .int n), (6, .ref 38), (7, .ref 42)], [.int (S.1 42 3)], S)) rfl ?_
  refine x_top (v' := nI lo2) p3 ?_
  refine x_ifN_eq 57 rfl rfl (by omega) (fun h48 => ?_) (fun hn => absurd hz2 hn)
  refine run_ok 2 (c' := (62, [(0, .ref 0), (1, .int (nI 0)), (2, .int a), (3, .int (nI 2)), (4, .int b), (5, .int n), (6, .ref 38), (7, .ref 42)], [.int (S.1 38 1)], S)) rfl ?_
  refine x_top (v' := nI fm) g1 ?_
  refine run_ok 2 (c' := (67, [(0, .ref 0), (1, .int (nI 0)), (2, .int a), (3, .int (nI 2)), (4, .int b), (5, .int n), (6, .ref 38), (7, .ref 42)], [.int (S.1 42 1), .int (nI fm)], S)) rfl ?_
  refine x_top (v' := nI fm2) p1 ?_
  refine x_icmpN_eq 76 rfl rfl (by omega) (by omega) (fun hn => absurd hn hst) (fun h67 => ?_)
  refine run_ok 2 (c' := (72, [(0, .ref 0), (1, .int (nI 0)), (2, .int a), (3, .int (nI 2)), (4, .int b), (5, .int n), (6, .ref 38), (7, .ref 42)], [.int (nI 4), .ref 0], S)) rfl ?_
  refine x_callV [.int (nI 4)] rfl cv_N_find.1 lk_6_134 cv_N_find.2.1 cv_N_find.2.2.1 rfl cv_N_find.2.2.2.1 rfl rfl (Nat.le_of_ble_eq_true rfl) (by decide) cv_N_find.2.2.2.2 (c_find S (4)) ?_
  rintro r x ⟨hr, hu⟩
  rw [hr, hu]
  clear hr hu r x
  exact x_ret (r := some (.int ((-10) - nI 4))) rfl rfl trivial ⟨rfl, rfl⟩ rfl

set_option maxHeartbeats 2000000 in
theorem c_copy_index02 (S : ST) (lo fm sz : Nat) (hH : HR 38 lo fm sz S) (lo2 fm2 sz2 : Nat) (hH2 : HR 42 lo2 fm2 sz2 S) (a b n : Int32) (hz1 : lo = 0) (hz2 : lo2 = 0) (hst : fm = fm2) (hix : ¬ (hasI sz a n ∧ hasI sz2 b n)) : EX me_N_copy 2 [.ref 0, .int (nI 0), .int a, .int (nI 2), .int b, .int n] S (fun r u => r = some (.int ((-10) - nI 2)) ∧ u = pt S 0 10 (nI 2)) := by
  refine EX.of mok_N_copy (Nat.le_of_ble_eq_true rfl) ?_
  obtain ⟨g3, g1, g2, hl1, hf2, hs60⟩ := id hH
  obtain ⟨p3, p1, p2, pl1, pf2, ps60⟩ := id hH2
  refine run_ok 2 (c' := (2, [(0, .ref 0), (1, .int (nI 0)), (2, .int a), (3, .int (nI 2)), (4, .int b), (5, .int n)], [.int (nI 4), .int (nI 0)], S)) rfl ?_
  refine x_callS [.int (nI 0), .int (nI 4)] rfl cs_N_isBelow.1 lk_6_73 cs_N_isBelow.2.1 rfl rfl (Nat.le_of_ble_eq_true rfl) (by decide) cs_N_isBelow.2.2 (c_isBelow S (nI 0) (nI 4)) ?_
  rintro r u ⟨hr, hu⟩
  rw [hr, hu]
  clear hr hu r u
  refine x_ifB_eq 16 rfl rfl (fun hn => absurd hn (fun z => z (inr_t (by decide) (by decide)))) (fun h5 => ?_)
  refine run_ok 2 (c' := (10, [(0, .ref 0), (1, .int (nI 0)), (2, .int a), (3, .int (nI 2)), (4, .int b), (5, .int n)], [.int (nI 4), .int (nI 2)], S)) rfl ?_
  refine x_callS [.int (nI 2), .int (nI 4)] rfl cs_N_isBelow.1 lk_6_73 cs_N_isBelow.2.1 rfl rfl (Nat.le_of_ble_eq_true rfl) (by decide) cs_N_isBelow.2.2 (c_isBelow S (nI 2) (nI 4)) ?_
  rintro r u ⟨hr, hu⟩
  rw [hr, hu]
  clear hr hu r u
  refine x_ifB_ne 19 rfl rfl (fun h13 => ?_) (fun hn => absurd (inr_t (by decide) (by decide)) hn)
  refine run_ok 3 (c' := (24, [(0, .ref 0), (1, .int (nI 0)), (2, .int a), (3, .int (nI 2)), (4, .int b), (5, .int n)], [.int (nI 0), .ref 37], S)) rfl ?_
  refine x_aald (t := 38) rfl rfl (vp_in_nI (by decide) (by decide)) (by decide) ?_
  refine run_ok 4 (c' := (32, [(0, .ref 0), (1, .int (nI 0)), (2, .int a), (3, .int (nI 2)), (4, .int b), (5, .int n), (6, .ref 38)], [.int (nI 2), .ref 37], S)) rfl ?_
  refine x_aald (t := 42) rfl rfl (vp_in_nI (by decide) (by decide)) (by decide) ?_
  refine run_ok 3 (c' := (40, [(0, .ref 0), (1, .int (nI 0)), (2, .int a), (3, .int (nI 2)), (4, .int b), (5, .int n), (6, .ref 38), (7, .ref 42)], [.int (S.1 38 3)], S)) rfl ?_
  refine x_top (v' := nI lo) g3 ?_
  refine x_ifN_ne 51 rfl rfl (by omega) (fun hn => absurd hz1 hn) (fun h40 => ?_)
  refine run_ok 2 (c' := (48, [(0, .ref 0), (1, .int (nI 0)), (2, .int a), (3, .int (nI 2)), (4, .int b), (5, .int n), (6, .ref 38), (7, .ref 42)], [.int (S.1 42 3)], S)) rfl ?_
  refine x_top (v' := nI lo2) p3 ?_
  refine x_ifN_eq 57 rfl rfl (by omega) (fun h48 => ?_) (fun hn => absurd hz2 hn)
  refine run_ok 2 (c' := (62, [(0, .ref 0), (1, .int (nI 0)), (2, .int a), (3, .int (nI 2)), (4, .int b), (5, .int n), (6, .ref 38), (7, .ref 42)], [.int (S.1 38 1)], S)) rfl ?_
  refine x_top (v' := nI fm) g1 ?_
  refine run_ok 2 (c' := (67, [(0, .ref 0), (1, .int (nI 0)), (2, .int a), (3, .int (nI 2)), (4, .int b), (5, .int n), (6, .ref 38), (7, .ref 42)], [.int (S.1 42 1), .int (nI fm)], S)) rfl ?_
  refine x_top (v' := nI fm2) p1 ?_
  refine x_icmpN_eq 76 rfl rfl (by omega) (by omega) (fun h67 => ?_) (fun hn => absurd hst hn)
  refine run_ok 3 (c' := (81, [(0, .ref 0), (1, .int (nI 0)), (2, .int a), (3, .int (nI 2)), (4, .int b), (5, .int n), (6, .ref 38), (7, .ref 42)], [.int n, .int a, .ref 38], S)) rfl ?_
  refine x_callV [.int a, .int n] rfl cv_H_hasItems.1 lk_6_265 cv_H_hasItems.2.1 cv_H_hasItems.2.2.1 rfl cv_H_hasItems.2.2.2.1 rfl rfl (Nat.le_of_ble_eq_true rfl) (by decide) cv_H_hasItems.2.2.2.2 (c_hasItems0 S lo fm sz hH (a) (n)) ?_
  rintro r x ⟨hr, hu⟩
  rw [hr, hu]
  clear hr hu r x
  refine x_ifB_eq 99 rfl rfl (fun h84 => ?_) (fun h84 => ?_)
  · refine run_ok 2 (c' := (101, [(0, .ref 0), (1, .int (nI 0)), (2, .int a), (3, .int (nI 2)), (4, .int b), (5, .int n), (6, .ref 38), (7, .ref 42)], [.int (nI 2), .ref 0], S)) rfl ?_
    refine x_callV [.int (nI 2)] rfl cv_N_find.1 lk_6_134 cv_N_find.2.1 cv_N_find.2.2.1 rfl cv_N_find.2.2.2.1 rfl rfl (Nat.le_of_ble_eq_true rfl) (by decide) cv_N_find.2.2.2.2 (c_find S (2)) ?_
    rintro r x ⟨hr, hu⟩
    rw [hr, hu]
    clear hr hu r x
    exact x_ret (r := some (.int ((-10) - nI 2))) rfl rfl trivial ⟨rfl, rfl⟩ rfl
  · refine run_ok 3 (c' := (93, [(0, .ref 0), (1, .int (nI 0)), (2, .int a), (3, .int (nI 2)), (4, .int b), (5, .int n), (6, .ref 38), (7, .ref 42)], [.int n, .int b, .ref 42], S)) rfl ?_
    refine x_callV [.int b, .int n] rfl cv_H_hasItems.1 lk_6_265 cv_H_hasItems.2.1 cv_H_hasItems.2.2.1 rfl cv_H_hasItems.2.2.2.1 rfl rfl (Nat.le_of_ble_eq_true rfl) (by decide) cv_H_hasItems.2.2.2.2 (c_hasItems2 S lo2 fm2 sz2 hH2 (b) (n)) ?_
    rintro r x ⟨hr, hu⟩
    rw [hr, hu]
    clear hr hu r x
    refine x_ifB_ne 105 rfl rfl (fun h96 => ?_) (fun h96 => ?_)
    · exact absurd ⟨h84, h96⟩ hix
    · refine run_ok 2 (c' := (101, [(0, .ref 0), (1, .int (nI 0)), (2, .int a), (3, .int (nI 2)), (4, .int b), (5, .int n), (6, .ref 38), (7, .ref 42)], [.int (nI 2), .ref 0], S)) rfl ?_
      refine x_callV [.int (nI 2)] rfl cv_N_find.1 lk_6_134 cv_N_find.2.1 cv_N_find.2.2.1 rfl cv_N_find.2.2.2.1 rfl rfl (Nat.le_of_ble_eq_true rfl) (by decide) cv_N_find.2.2.2.2 (c_find S (2)) ?_
      rintro r x ⟨hr, hu⟩
      rw [hr, hu]
      clear hr hu r x
      exact x_ret (r := some (.int ((-10) - nI 2))) rfl rfl trivial ⟨rfl, rfl⟩ rfl

set_option maxHeartbeats 2000000 in
theorem c_copy_ok02 (S : ST) (lo fm sz : Nat) (hH : HR 38 lo fm sz S) (lo2 fm2 sz2 : Nat) (hH2 : HR 42 lo2 fm2 sz2 S) (a b n : Nat) (hz1 : lo = 0) (hz2 : lo2 = 0) (hst : fm = fm2) (ha : a + n ≤ sz) (hb : b + n ≤ sz2) : EX me_N_copy 2 [.ref 0, .int (nI 0), .int (nI a), .int (nI 2), .int (nI b), .int (nI n)] S (fun r u => r = some (.int 1) ∧ u = rwr S 43 (va_cpy (S.1 39) (S.1 43) a b n)) := by
  refine EX.of mok_N_copy (Nat.le_of_ble_eq_true rfl) ?_
  obtain ⟨g3, g1, g2, hl1, hf2, hs60⟩ := id hH
  obtain ⟨p3, p1, p2, pl1, pf2, ps60⟩ := id hH2
  refine run_ok 2 (c' := (2, [(0, .ref 0), (1, .int (nI 0)), (2, .int (nI a)), (3, .int (nI 2)), (4, .int (nI b)), (5, .int (nI n))], [.int (nI 4), .int (nI 0)], S)) rfl ?_
  refine x_callS [.int (nI 0), .int (nI 4)] rfl cs_N_isBelow.1 lk_6_73 cs_N_isBelow.2.1 rfl rfl (Nat.le_of_ble_eq_true rfl) (by decide) cs_N_isBelow.2.2 (c_isBelow S (nI 0) (nI 4)) ?_
  rintro r u ⟨hr, hu⟩
  rw [hr, hu]
  clear hr hu r u
  refine x_ifB_eq 16 rfl rfl (fun hn => absurd hn (fun z => z (inr_t (by decide) (by decide)))) (fun h5 => ?_)
  refine run_ok 2 (c' := (10, [(0, .ref 0), (1, .int (nI 0)), (2, .int (nI a)), (3, .int (nI 2)), (4, .int (nI b)), (5, .int (nI n))], [.int (nI 4), .int (nI 2)], S)) rfl ?_
  refine x_callS [.int (nI 2), .int (nI 4)] rfl cs_N_isBelow.1 lk_6_73 cs_N_isBelow.2.1 rfl rfl (Nat.le_of_ble_eq_true rfl) (by decide) cs_N_isBelow.2.2 (c_isBelow S (nI 2) (nI 4)) ?_
  rintro r u ⟨hr, hu⟩
  rw [hr, hu]
  clear hr hu r u
  refine x_ifB_ne 19 rfl rfl (fun h13 => ?_) (fun hn => absurd (inr_t (by decide) (by decide)) hn)
  refine run_ok 3 (c' := (24, [(0, .ref 0), (1, .int (nI 0)), (2, .int (nI a)), (3, .int (nI 2)), (4, .int (nI b)), (5, .int (nI n))], [.int (nI 0), .ref 37], S)) rfl ?_
  refine x_aald (t := 38) rfl rfl (vp_in_nI (by decide) (by decide)) (by decide) ?_
  refine run_ok 4 (c' := (32, [(0, .ref 0), (1, .int (nI 0)), (2, .int (nI a)), (3, .int (nI 2)), (4, .int (nI b)), (5, .int (nI n)), (6, .ref 38)], [.int (nI 2), .ref 37], S)) rfl ?_
  refine x_aald (t := 42) rfl rfl (vp_in_nI (by decide) (by decide)) (by decide) ?_
  refine run_ok 3 (c' := (40, [(0, .ref 0), (1, .int (nI 0)), (2, .int (nI a)), (3, .int (nI 2)), (4, .int (nI b)), (5, .int (nI n)), (6, .ref 38), (7, .ref 42)], [.int (S.1 38 3)], S)) rfl ?_
  refine x_top (v' := nI lo) g3 ?_
  refine x_ifN_ne 51 rfl rfl (by omega) (fun hn => absurd hz1 hn) (fun h40 => ?_)
  refine run_ok 2 (c' := (48, [(0, .ref 0), (1, .int (nI 0)), (2, .int (nI a)), (3, .int (nI 2)), (4, .int (nI b)), (5, .int (nI n)), (6, .ref 38), (7, .ref 42)], [.int (S.1 42 3)], S)) rfl ?_
  refine x_top (v' := nI lo2) p3 ?_
  refine x_ifN_eq 57 rfl rfl (by omega) (fun h48 => ?_) (fun hn => absurd hz2 hn)
  refine run_ok 2 (c' := (62, [(0, .ref 0), (1, .int (nI 0)), (2, .int (nI a)), (3, .int (nI 2)), (4, .int (nI b)), (5, .int (nI n)), (6, .ref 38), (7, .ref 42)], [.int (S.1 38 1)], S)) rfl ?_
  refine x_top (v' := nI fm) g1 ?_
  refine run_ok 2 (c' := (67, [(0, .ref 0), (1, .int (nI 0)), (2, .int (nI a)), (3, .int (nI 2)), (4, .int (nI b)), (5, .int (nI n)), (6, .ref 38), (7, .ref 42)], [.int (S.1 42 1), .int (nI fm)], S)) rfl ?_
  refine x_top (v' := nI fm2) p1 ?_
  refine x_icmpN_eq 76 rfl rfl (by omega) (by omega) (fun h67 => ?_) (fun hn => absurd hst hn)
  refine run_ok 3 (c' := (81, [(0, .ref 0), (1, .int (nI 0)), (2, .int (nI a)), (3, .int (nI 2)), (4, .int (nI b)), (5, .int (nI n)), (6, .ref 38), (7, .ref 42)], [.int (nI n), .int (nI a), .ref 38], S)) rfl ?_
  refine x_callV [.int (nI a), .int (nI n)] rfl cv_H_hasItems.1 lk_6_265 cv_H_hasItems.2.1 cv_H_hasItems.2.2.1 rfl cv_H_hasItems.2.2.2.1 rfl rfl (Nat.le_of_ble_eq_true rfl) (by decide) cv_H_hasItems.2.2.2.2 (c_hasItems0 S lo fm sz hH (nI a) (nI n)) ?_
  rintro r x ⟨hr, hu⟩
  rw [hr, hu]
  clear hr hu r x
  refine x_ifB_eq 99 rfl rfl (fun hn => absurd hn (fun z => z (hasI_t ha hs60))) (fun h84 => ?_)
  refine run_ok 3 (c' := (93, [(0, .ref 0), (1, .int (nI 0)), (2, .int (nI a)), (3, .int (nI 2)), (4, .int (nI b)), (5, .int (nI n)), (6, .ref 38), (7, .ref 42)], [.int (nI n), .int (nI b), .ref 42], S)) rfl ?_
  refine x_callV [.int (nI b), .int (nI n)] rfl cv_H_hasItems.1 lk_6_265 cv_H_hasItems.2.1 cv_H_hasItems.2.2.1 rfl cv_H_hasItems.2.2.2.1 rfl rfl (Nat.le_of_ble_eq_true rfl) (by decide) cv_H_hasItems.2.2.2.2 (c_hasItems2 S lo2 fm2 sz2 hH2 (nI b) (nI n)) ?_
  rintro r x ⟨hr, hu⟩
  rw [hr, hu]
  clear hr hu r x
  refine x_ifB_ne 105 rfl rfl (fun h96 => ?_) (fun hn => absurd (hasI_t hb ps60) hn)
  refine run_ok 7 (c' := (120, [(0, .ref 0), (1, .int (nI 0)), (2, .int (nI a)), (3, .int (nI 2)), (4, .int (nI b)), (5, .int (nI n)), (6, .ref 38), (7, .ref 42)], [.int (nI n), .int (nI b), .ref 43, .int (nI a), .ref 39], S)) rfl ?_
  refine x_copyN rfl lk_6_268 rfl rfl (by decide) (by decide) (by omega) (by omega) (Nat.le_of_ble_eq_true rfl) (by decide) ?_
  refine run_ok 1 (c' := (124, [(0, .ref 0), (1, .int (nI 0)), (2, .int (nI a)), (3, .int (nI 2)), (4, .int (nI b)), (5, .int (nI n)), (6, .ref 38), (7, .ref 42)], [.int (nI 1)], (rwr S 43 (va_cpy (S.1 39) (S.1 43) a b n)))) rfl ?_
  exact x_ret (r := some (.int (nI 1))) rfl rfl trivial ⟨rfl, rfl⟩ rfl

set_option maxHeartbeats 2000000 in
theorem c_copy_null03 (S : ST) (lo fm sz : Nat) (hH : HR 38 lo fm sz S) (lo2 fm2 sz2 : Nat) (hH2 : HR 44 lo2 fm2 sz2 S) (a b n : Int32) (hnl : ¬ (lo = 0 ∧ lo2 = 0)) : EX me_N_copy 2 [.ref 0, .int (nI 0), .int a, .int (nI 3), .int b, .int n] S (fun r u => r = some (.int ((-10) - nI 1)) ∧ u = pt S 0 10 (nI 1)) := by
  refine EX.of mok_N_copy (Nat.le_of_ble_eq_true rfl) ?_
  obtain ⟨g3, g1, g2, hl1, hf2, hs60⟩ := id hH
  obtain ⟨p3, p1, p2, pl1, pf2, ps60⟩ := id hH2
  refine run_ok 2 (c' := (2, [(0, .ref 0), (1, .int (nI 0)), (2, .int a), (3, .int (nI 3)), (4, .int b), (5, .int n)], [.int (nI 4), .int (nI 0)], S)) rfl ?_
  refine x_callS [.int (nI 0), .int (nI 4)] rfl cs_N_isBelow.1 lk_6_73 cs_N_isBelow.2.1 rfl rfl (Nat.le_of_ble_eq_true rfl) (by decide) cs_N_isBelow.2.2 (c_isBelow S (nI 0) (nI 4)) ?_
  rintro r u ⟨hr, hu⟩
  rw [hr, hu]
  clear hr hu r u
  refine x_ifB_eq 16 rfl rfl (fun hn => absurd hn (fun z => z (inr_t (by decide) (by decide)))) (fun h5 => ?_)
  refine run_ok 2 (c' := (10, [(0, .ref 0), (1, .int (nI 0)), (2, .int a), (3, .int (nI 3)), (4, .int b), (5, .int n)], [.int (nI 4), .int (nI 3)], S)) rfl ?_
  refine x_callS [.int (nI 3), .int (nI 4)] rfl cs_N_isBelow.1 lk_6_73 cs_N_isBelow.2.1 rfl rfl (Nat.le_of_ble_eq_true rfl) (by decide) cs_N_isBelow.2.2 (c_isBelow S (nI 3) (nI 4)) ?_
  rintro r u ⟨hr, hu⟩
  rw [hr, hu]
  clear hr hu r u
  refine x_ifB_ne 19 rfl rfl (fun h13 => ?_) (fun hn => absurd (inr_t (by decide) (by decide)) hn)
  refine run_ok 3 (c' := (24, [(0, .ref 0), (1, .int (nI 0)), (2, .int a), (3, .int (nI 3)), (4, .int b), (5, .int n)], [.int (nI 0), .ref 37], S)) rfl ?_
  refine x_aald (t := 38) rfl rfl (vp_in_nI (by decide) (by decide)) (by decide) ?_
  refine run_ok 4 (c' := (32, [(0, .ref 0), (1, .int (nI 0)), (2, .int a), (3, .int (nI 3)), (4, .int b), (5, .int n), (6, .ref 38)], [.int (nI 3), .ref 37], S)) rfl ?_
  refine x_aald (t := 44) rfl rfl (vp_in_nI (by decide) (by decide)) (by decide) ?_
  refine run_ok 3 (c' := (40, [(0, .ref 0), (1, .int (nI 0)), (2, .int a), (3, .int (nI 3)), (4, .int b), (5, .int n), (6, .ref 38), (7, .ref 44)], [.int (S.1 38 3)], S)) rfl ?_
  refine x_top (v' := nI lo) g3 ?_
  refine x_ifN_ne 51 rfl rfl (by omega) (fun h40 => ?_) (fun h40 => ?_)
  · refine run_ok 2 (c' := (53, [(0, .ref 0), (1, .int (nI 0)), (2, .int a), (3, .int (nI 3)), (4, .int b), (5, .int n), (6, .ref 38), (7, .ref 44)], [.int (nI 1), .ref 0], S)) rfl ?_
    refine x_callV [.int (nI 1)] rfl cv_N_find.1 lk_6_134 cv_N_find.2.1 cv_N_find.2.2.1 rfl cv_N_find.2.2.2.1 rfl rfl (Nat.le_of_ble_eq_true rfl) (by decide) cv_N_find.2.2.2.2 (c_find S (1)) ?_
    rintro r x ⟨hr, hu⟩
    rw [hr, hu]
    clear hr hu r x
    exact x_ret (r := some (.int ((-10) - nI 1))) rfl rfl trivial ⟨rfl, rfl⟩ rfl
  · refine run_ok 2 (c' := (48, [(0, .ref 0), (1, .int (nI 0)), (2, .int a), (3, .int (nI 3)), (4, .int b), (5, .int n), (6, .ref 38), (7, .ref 44)], [.int (S.1 44 3)], S)) rfl ?_
    refine x_top (v' := nI lo2) p3 ?_
    refine x_ifN_eq 57 rfl rfl (by omega) (fun h48 => ?_) (fun h48 => ?_)
    · exact absurd hnl (by omega)
    · refine run_ok 2 (c' := (53, [(0, .ref 0), (1, .int (nI 0)), (2, .int a), (3, .int (nI 3)), (4, .int b), (5, .int n), (6, .ref 38), (7, .ref 44)], [.int (nI 1), .ref 0], S)) rfl ?_
      refine x_callV [.int (nI 1)] rfl cv_N_find.1 lk_6_134 cv_N_find.2.1 cv_N_find.2.2.1 rfl cv_N_find.2.2.2.1 rfl rfl (Nat.le_of_ble_eq_true rfl) (by decide) cv_N_find.2.2.2.2 (c_find S (1)) ?_
      rintro r x ⟨hr, hu⟩
      rw [hr, hu]
      clear hr hu r x
      exact x_ret (r := some (.int ((-10) - nI 1))) rfl rfl trivial ⟨rfl, rfl⟩ rfl

set_option maxHeartbeats 2000000 in
theorem c_copy_store03 (S : ST) (lo fm sz : Nat) (hH : HR 38 lo fm sz S) (lo2 fm2 sz2 : Nat) (hH2 : HR 44 lo2 fm2 sz2 S) (a b n : Int32) (hz1 : lo = 0) (hz2 : lo2 = 0) (hst : ¬ fm = fm2) : EX me_N_copy 2 [.ref 0, .int (nI 0), .int a, .int (nI 3), .int b, .int n] S (fun r u => r = some (.int ((-10) - nI 4)) ∧ u = pt S 0 10 (nI 4)) := by
  refine EX.of mok_N_copy (Nat.le_of_ble_eq_true rfl) ?_
  obtain ⟨g3, g1, g2, hl1, hf2, hs60⟩ := id hH
  obtain ⟨p3, p1, p2, pl1, pf2, ps60⟩ := id hH2
  refine run_ok 2 (c' := (2, [(0, .ref 0), (1, .int (nI 0)), (2, .int a), (3, .int (nI 3)), (4, .int b), (5, .int n)], [.int (nI 4), .int (nI 0)], S)) rfl ?_
  refine x_callS [.int (nI 0), .int (nI 4)] rfl cs_N_isBelow.1 lk_6_73 cs_N_isBelow.2.1 rfl rfl (Nat.le_of_ble_eq_true rfl) (by decide) cs_N_isBelow.2.2 (c_isBelow S (nI 0) (nI 4)) ?_
  rintro r u ⟨hr, hu⟩
  rw [hr, hu]
  clear hr hu r u
  refine x_ifB_eq 16 rfl rfl (fun hn => absurd hn (fun z => z (inr_t (by decide) (by decide)))) (fun h5 => ?_)
  refine run_ok 2 (c' := (10, [(0, .ref 0), (1, .int (nI 0)), (2, .int a), (3, .int (nI 3)), (4, .int b), (5, .int n)], [.int (nI 4), .int (nI 3)], S)) rfl ?_
  refine x_callS [.int (nI 3), .int (nI 4)] rfl cs_N_isBelow.1 lk_6_73 cs_N_isBelow.2.1 rfl rfl (Nat.le_of_ble_eq_true rfl) (by decide) cs_N_isBelow.2.2 (c_isBelow S (nI 3) (nI 4)) ?_
  rintro r u ⟨hr, hu⟩
  rw [hr, hu]
  clear hr hu r u
  refine x_ifB_ne 19 rfl rfl (fun h13 => ?_) (fun hn => absurd (inr_t (by decide) (by decide)) hn)
  refine run_ok 3 (c' := (24, [(0, .ref 0), (1, .int (nI 0)), (2, .int a), (3, .int (nI 3)), (4, .int b), (5, .int n)], [.int (nI 0), .ref 37], S)) rfl ?_
  refine x_aald (t := 38) rfl rfl (vp_in_nI (by decide) (by decide)) (by decide) ?_
  refine run_ok 4 (c' := (32, [(0, .ref 0), (1, .int (nI 0)), (2, .int a), (3, .int (nI 3)), (4, .int b), (5, .int n), (6, .ref 38)], [.int (nI 3), .ref 37], S)) rfl ?_
  refine x_aald (t := 44) rfl rfl (vp_in_nI (by decide) (by decide)) (by decide) ?_
  refine run_ok 3 (c' := (40, [(0, .ref 0), (1, .int (nI 0)), (2, .int a), (3, .int (nI 3)), (4, .int b), (5, .int n), (6, .ref 38), (7, .ref 44)], [.int (S.1 38 3)], S)) rfl ?_
  refine x_top (v' := nI lo) g3 ?_
  refine x_ifN_ne 51 rfl rfl (by omega) (fun hn => absurd hz1 hn) (fun h40 => ?_)
  refine run_ok 2 (c' := (48, [(0, .ref 0), (1, .int (nI 0)), (2, .int a), (3, .int (nI 3)), (4, .int b), (5, .int n), (6, .ref 38), (7, .ref 44)], [.int (S.1 44 3)], S)) rfl ?_
  refine x_top (v' := nI lo2) p3 ?_
  refine x_ifN_eq 57 rfl rfl (by omega) (fun h48 => ?_) (fun hn => absurd hz2 hn)
  refine run_ok 2 (c' := (62, [(0, .ref 0), (1, .int (nI 0)), (2, .int a), (3, .int (nI 3)), (4, .int b), (5, .int n), (6, .ref 38), (7, .ref 44)], [.int (S.1 38 1)], S)) rfl ?_
  refine x_top (v' := nI fm) g1 ?_
  refine run_ok 2 (c' := (67, [(0, .ref 0), (1, .int (nI 0)), (2, .int a), (3, .int (nI 3)), (4, .int b), (5, .int n), (6, .ref 38), (7, .ref 44)], [.int (S.1 44 1), .int (nI fm)], S)) rfl ?_
  refine x_top (v' := nI fm2) p1 ?_
  refine x_icmpN_eq 76 rfl rfl (by omega) (by omega) (fun hn => absurd hn hst) (fun h67 => ?_)
  refine run_ok 2 (c' := (72, [(0, .ref 0), (1, .int (nI 0)), (2, .int a), (3, .int (nI 3)), (4, .int b), (5, .int n), (6, .ref 38), (7, .ref 44)], [.int (nI 4), .ref 0], S)) rfl ?_
  refine x_callV [.int (nI 4)] rfl cv_N_find.1 lk_6_134 cv_N_find.2.1 cv_N_find.2.2.1 rfl cv_N_find.2.2.2.1 rfl rfl (Nat.le_of_ble_eq_true rfl) (by decide) cv_N_find.2.2.2.2 (c_find S (4)) ?_
  rintro r x ⟨hr, hu⟩
  rw [hr, hu]
  clear hr hu r x
  exact x_ret (r := some (.int ((-10) - nI 4))) rfl rfl trivial ⟨rfl, rfl⟩ rfl

set_option maxHeartbeats 2000000 in
theorem c_copy_index03 (S : ST) (lo fm sz : Nat) (hH : HR 38 lo fm sz S) (lo2 fm2 sz2 : Nat) (hH2 : HR 44 lo2 fm2 sz2 S) (a b n : Int32) (hz1 : lo = 0) (hz2 : lo2 = 0) (hst : fm = fm2) (hix : ¬ (hasI sz a n ∧ hasI sz2 b n)) : EX me_N_copy 2 [.ref 0, .int (nI 0), .int a, .int (nI 3), .int b, .int n] S (fun r u => r = some (.int ((-10) - nI 2)) ∧ u = pt S 0 10 (nI 2)) := by
  refine EX.of mok_N_copy (Nat.le_of_ble_eq_true rfl) ?_
  obtain ⟨g3, g1, g2, hl1, hf2, hs60⟩ := id hH
  obtain ⟨p3, p1, p2, pl1, pf2, ps60⟩ := id hH2
  refine run_ok 2 (c' := (2, [(0, .ref 0), (1, .int (nI 0)), (2, .int a), (3, .int (nI 3)), (4, .int b), (5, .int n)], [.int (nI 4), .int (nI 0)], S)) rfl ?_
  refine x_callS [.int (nI 0), .int (nI 4)] rfl cs_N_isBelow.1 lk_6_73 cs_N_isBelow.2.1 rfl rfl (Nat.le_of_ble_eq_true rfl) (by decide) cs_N_isBelow.2.2 (c_isBelow S (nI 0) (nI 4)) ?_
  rintro r u ⟨hr, hu⟩
  rw [hr, hu]
  clear hr hu r u
  refine x_ifB_eq 16 rfl rfl (fun hn => absurd hn (fun z => z (inr_t (by decide) (by decide)))) (fun h5 => ?_)
  refine run_ok 2 (c' := (10, [(0, .ref 0), (1, .int (nI 0)), (2, .int a), (3, .int (nI 3)), (4, .int b), (5, .int n)], [.int (nI 4), .int (nI 3)], S)) rfl ?_
  refine x_callS [.int (nI 3), .int (nI 4)] rfl cs_N_isBelow.1 lk_6_73 cs_N_isBelow.2.1 rfl rfl (Nat.le_of_ble_eq_true rfl) (by decide) cs_N_isBelow.2.2 (c_isBelow S (nI 3) (nI 4)) ?_
  rintro r u ⟨hr, hu⟩
  rw [hr, hu]
  clear hr hu r u
  refine x_ifB_ne 19 rfl rfl (fun h13 => ?_) (fun hn => absurd (inr_t (by decide) (by decide)) hn)
  refine run_ok 3 (c' := (24, [(0, .ref 0), (1, .int (nI 0)), (2, .int a), (3, .int (nI 3)), (4, .int b), (5, .int n)], [.int (nI 0), .ref 37], S)) rfl ?_
  refine x_aald (t := 38) rfl rfl (vp_in_nI (by decide) (by decide)) (by decide) ?_
  refine run_ok 4 (c' := (32, [(0, .ref 0), (1, .int (nI 0)), (2, .int a), (3, .int (nI 3)), (4, .int b), (5, .int n), (6, .ref 38)], [.int (nI 3), .ref 37], S)) rfl ?_
  refine x_aald (t := 44) rfl rfl (vp_in_nI (by decide) (by decide)) (by decide) ?_
  refine run_ok 3 (c' := (40, [(0, .ref 0), (1, .int (nI 0)), (2, .int a), (3, .int (nI 3)), (4, .int b), (5, .int n), (6, .ref 38), (7, .ref 44)], [.int (S.1 38 3)], S)) rfl ?_
  refine x_top (v' := nI lo) g3 ?_
  refine x_ifN_ne 51 rfl rfl (by omega) (fun hn => absurd hz1 hn) (fun h40 => ?_)
  refine run_ok 2 (c' := (48, [(0, .ref 0), (1, .int (nI 0)), (2, .int a), (3, .int (nI 3)), (4, .int b), (5, .int n), (6, .ref 38), (7, .ref 44)], [.int (S.1 44 3)], S)) rfl ?_
  refine x_top (v' := nI lo2) p3 ?_
  refine x_ifN_eq 57 rfl rfl (by omega) (fun h48 => ?_) (fun hn => absurd hz2 hn)
  refine run_ok 2 (c' := (62, [(0, .ref 0), (1, .int (nI 0)), (2, .int a), (3, .int (nI 3)), (4, .int b), (5, .int n), (6, .ref 38), (7, .ref 44)], [.int (S.1 38 1)], S)) rfl ?_
  refine x_top (v' := nI fm) g1 ?_
  refine run_ok 2 (c' := (67, [(0, .ref 0), (1, .int (nI 0)), (2, .int a), (3, .int (nI 3)), (4, .int b), (5, .int n), (6, .ref 38), (7, .ref 44)], [.int (S.1 44 1), .int (nI fm)], S)) rfl ?_
  refine x_top (v' := nI fm2) p1 ?_
  refine x_icmpN_eq 76 rfl rfl (by omega) (by omega) (fun h67 => ?_) (fun hn => absurd hst hn)
  refine run_ok 3 (c' := (81, [(0, .ref 0), (1, .int (nI 0)), (2, .int a), (3, .int (nI 3)), (4, .int b), (5, .int n), (6, .ref 38), (7, .ref 44)], [.int n, .int a, .ref 38], S)) rfl ?_
  refine x_callV [.int a, .int n] rfl cv_H_hasItems.1 lk_6_265 cv_H_hasItems.2.1 cv_H_hasItems.2.2.1 rfl cv_H_hasItems.2.2.2.1 rfl rfl (Nat.le_of_ble_eq_true rfl) (by decide) cv_H_hasItems.2.2.2.2 (c_hasItems0 S lo fm sz hH (a) (n)) ?_
  rintro r x ⟨hr, hu⟩
  rw [hr, hu]
  clear hr hu r x
  refine x_ifB_eq 99 rfl rfl (fun h84 => ?_) (fun h84 => ?_)
  · refine run_ok 2 (c' := (101, [(0, .ref 0), (1, .int (nI 0)), (2, .int a), (3, .int (nI 3)), (4, .int b), (5, .int n), (6, .ref 38), (7, .ref 44)], [.int (nI 2), .ref 0], S)) rfl ?_
    refine x_callV [.int (nI 2)] rfl cv_N_find.1 lk_6_134 cv_N_find.2.1 cv_N_find.2.2.1 rfl cv_N_find.2.2.2.1 rfl rfl (Nat.le_of_ble_eq_true rfl) (by decide) cv_N_find.2.2.2.2 (c_find S (2)) ?_
    rintro r x ⟨hr, hu⟩
    rw [hr, hu]
    clear hr hu r x
    exact x_ret (r := some (.int ((-10) - nI 2))) rfl rfl trivial ⟨rfl, rfl⟩ rfl
  · refine run_ok 3 (c' := (93, [(0, .ref 0), (1, .int (nI 0)), (2, .int a), (3, .int (nI 3)), (4, .int b), (5, .int n), (6, .ref 38), (7, .ref 44)], [.int n, .int b, .ref 44], S)) rfl ?_
    refine x_callV [.int b, .int n] rfl cv_H_hasItems.1 lk_6_265 cv_H_hasItems.2.1 cv_H_hasItems.2.2.1 rfl cv_H_hasItems.2.2.2.1 rfl rfl (Nat.le_of_ble_eq_true rfl) (by decide) cv_H_hasItems.2.2.2.2 (c_hasItems3 S lo2 fm2 sz2 hH2 (b) (n)) ?_
    rintro r x ⟨hr, hu⟩
    rw [hr, hu]
    clear hr hu r x
    refine x_ifB_ne 105 rfl rfl (fun h96 => ?_) (fun h96 => ?_)
    · exact absurd ⟨h84, h96⟩ hix
    · refine run_ok 2 (c' := (101, [(0, .ref 0), (1, .int (nI 0)), (2, .int a), (3, .int (nI 3)), (4, .int b), (5, .int n), (6, .ref 38), (7, .ref 44)], [.int (nI 2), .ref 0], S)) rfl ?_
      refine x_callV [.int (nI 2)] rfl cv_N_find.1 lk_6_134 cv_N_find.2.1 cv_N_find.2.2.1 rfl cv_N_find.2.2.2.1 rfl rfl (Nat.le_of_ble_eq_true rfl) (by decide) cv_N_find.2.2.2.2 (c_find S (2)) ?_
      rintro r x ⟨hr, hu⟩
      rw [hr, hu]
      clear hr hu r x
      exact x_ret (r := some (.int ((-10) - nI 2))) rfl rfl trivial ⟨rfl, rfl⟩ rfl

set_option maxHeartbeats 2000000 in
theorem c_copy_ok03 (S : ST) (lo fm sz : Nat) (hH : HR 38 lo fm sz S) (lo2 fm2 sz2 : Nat) (hH2 : HR 44 lo2 fm2 sz2 S) (a b n : Nat) (hz1 : lo = 0) (hz2 : lo2 = 0) (hst : fm = fm2) (ha : a + n ≤ sz) (hb : b + n ≤ sz2) : EX me_N_copy 2 [.ref 0, .int (nI 0), .int (nI a), .int (nI 3), .int (nI b), .int (nI n)] S (fun r u => r = some (.int 1) ∧ u = rwr S 45 (va_cpy (S.1 39) (S.1 45) a b n)) := by
  refine EX.of mok_N_copy (Nat.le_of_ble_eq_true rfl) ?_
  obtain ⟨g3, g1, g2, hl1, hf2, hs60⟩ := id hH
  obtain ⟨p3, p1, p2, pl1, pf2, ps60⟩ := id hH2
  refine run_ok 2 (c' := (2, [(0, .ref 0), (1, .int (nI 0)), (2, .int (nI a)), (3, .int (nI 3)), (4, .int (nI b)), (5, .int (nI n))], [.int (nI 4), .int (nI 0)], S)) rfl ?_
  refine x_callS [.int (nI 0), .int (nI 4)] rfl cs_N_isBelow.1 lk_6_73 cs_N_isBelow.2.1 rfl rfl (Nat.le_of_ble_eq_true rfl) (by decide) cs_N_isBelow.2.2 (c_isBelow S (nI 0) (nI 4)) ?_
  rintro r u ⟨hr, hu⟩
  rw [hr, hu]
  clear hr hu r u
  refine x_ifB_eq 16 rfl rfl (fun hn => absurd hn (fun z => z (inr_t (by decide) (by decide)))) (fun h5 => ?_)
  refine run_ok 2 (c' := (10, [(0, .ref 0), (1, .int (nI 0)), (2, .int (nI a)), (3, .int (nI 3)), (4, .int (nI b)), (5, .int (nI n))], [.int (nI 4), .int (nI 3)], S)) rfl ?_
  refine x_callS [.int (nI 3), .int (nI 4)] rfl cs_N_isBelow.1 lk_6_73 cs_N_isBelow.2.1 rfl rfl (Nat.le_of_ble_eq_true rfl) (by decide) cs_N_isBelow.2.2 (c_isBelow S (nI 3) (nI 4)) ?_
  rintro r u ⟨hr, hu⟩
  rw [hr, hu]
  clear hr hu r u
  refine x_ifB_ne 19 rfl rfl (fun h13 => ?_) (fun hn => absurd (inr_t (by decide) (by decide)) hn)
  refine run_ok 3 (c' := (24, [(0, .ref 0), (1, .int (nI 0)), (2, .int (nI a)), (3, .int (nI 3)), (4, .int (nI b)), (5, .int (nI n))], [.int (nI 0), .ref 37], S)) rfl ?_
  refine x_aald (t := 38) rfl rfl (vp_in_nI (by decide) (by decide)) (by decide) ?_
  refine run_ok 4 (c' := (32, [(0, .ref 0), (1, .int (nI 0)), (2, .int (nI a)), (3, .int (nI 3)), (4, .int (nI b)), (5, .int (nI n)), (6, .ref 38)], [.int (nI 3), .ref 37], S)) rfl ?_
  refine x_aald (t := 44) rfl rfl (vp_in_nI (by decide) (by decide)) (by decide) ?_
  refine run_ok 3 (c' := (40, [(0, .ref 0), (1, .int (nI 0)), (2, .int (nI a)), (3, .int (nI 3)), (4, .int (nI b)), (5, .int (nI n)), (6, .ref 38), (7, .ref 44)], [.int (S.1 38 3)], S)) rfl ?_
  refine x_top (v' := nI lo) g3 ?_
  refine x_ifN_ne 51 rfl rfl (by omega) (fun hn => absurd hz1 hn) (fun h40 => ?_)
  refine run_ok 2 (c' := (48, [(0, .ref 0), (1, .int (nI 0)), (2, .int (nI a)), (3, .int (nI 3)), (4, .int (nI b)), (5, .int (nI n)), (6, .ref 38), (7, .ref 44)], [.int (S.1 44 3)], S)) rfl ?_
  refine x_top (v' := nI lo2) p3 ?_
  refine x_ifN_eq 57 rfl rfl (by omega) (fun h48 => ?_) (fun hn => absurd hz2 hn)
  refine run_ok 2 (c' := (62, [(0, .ref 0), (1, .int (nI 0)), (2, .int (nI a)), (3, .int (nI 3)), (4, .int (nI b)), (5, .int (nI n)), (6, .ref 38), (7, .ref 44)], [.int (S.1 38 1)], S)) rfl ?_
  refine x_top (v' := nI fm) g1 ?_
  refine run_ok 2 (c' := (67, [(0, .ref 0), (1, .int (nI 0)), (2, .int (nI a)), (3, .int (nI 3)), (4, .int (nI b)), (5, .int (nI n)), (6, .ref 38), (7, .ref 44)], [.int (S.1 44 1), .int (nI fm)], S)) rfl ?_
  refine x_top (v' := nI fm2) p1 ?_
  refine x_icmpN_eq 76 rfl rfl (by omega) (by omega) (fun h67 => ?_) (fun hn => absurd hst hn)
  refine run_ok 3 (c' := (81, [(0, .ref 0), (1, .int (nI 0)), (2, .int (nI a)), (3, .int (nI 3)), (4, .int (nI b)), (5, .int (nI n)), (6, .ref 38), (7, .ref 44)], [.int (nI n), .int (nI a), .ref 38], S)) rfl ?_
  refine x_callV [.int (nI a), .int (nI n)] rfl cv_H_hasItems.1 lk_6_265 cv_H_hasItems.2.1 cv_H_hasItems.2.2.1 rfl cv_H_hasItems.2.2.2.1 rfl rfl (Nat.le_of_ble_eq_true rfl) (by decide) cv_H_hasItems.2.2.2.2 (c_hasItems0 S lo fm sz hH (nI a) (nI n)) ?_
  rintro r x ⟨hr, hu⟩
  rw [hr, hu]
  clear hr hu r x
  refine x_ifB_eq 99 rfl rfl (fun hn => absurd hn (fun z => z (hasI_t ha hs60))) (fun h84 => ?_)
  refine run_ok 3 (c' := (93, [(0, .ref 0), (1, .int (nI 0)), (2, .int (nI a)), (3, .int (nI 3)), (4, .int (nI b)), (5, .int (nI n)), (6, .ref 38), (7, .ref 44)], [.int (nI n), .int (nI b), .ref 44], S)) rfl ?_
  refine x_callV [.int (nI b), .int (nI n)] rfl cv_H_hasItems.1 lk_6_265 cv_H_hasItems.2.1 cv_H_hasItems.2.2.1 rfl cv_H_hasItems.2.2.2.1 rfl rfl (Nat.le_of_ble_eq_true rfl) (by decide) cv_H_hasItems.2.2.2.2 (c_hasItems3 S lo2 fm2 sz2 hH2 (nI b) (nI n)) ?_
  rintro r x ⟨hr, hu⟩
  rw [hr, hu]
  clear hr hu r x
  refine x_ifB_ne 105 rfl rfl (fun h96 => ?_) (fun hn => absurd (hasI_t hb ps60) hn)
  refine run_ok 7 (c' := (120, [(0, .ref 0), (1, .int (nI 0)), (2, .int (nI a)), (3, .int (nI 3)), (4, .int (nI b)), (5, .int (nI n)), (6, .ref 38), (7, .ref 44)], [.int (nI n), .int (nI b), .ref 45, .int (nI a), .ref 39], S)) rfl ?_
  refine x_copyN rfl lk_6_268 rfl rfl (by decide) (by decide) (by omega) (by omega) (Nat.le_of_ble_eq_true rfl) (by decide) ?_
  refine run_ok 1 (c' := (124, [(0, .ref 0), (1, .int (nI 0)), (2, .int (nI a)), (3, .int (nI 3)), (4, .int (nI b)), (5, .int (nI n)), (6, .ref 38), (7, .ref 44)], [.int (nI 1)], (rwr S 45 (va_cpy (S.1 39) (S.1 45) a b n)))) rfl ?_
  exact x_ret (r := some (.int (nI 1))) rfl rfl trivial ⟨rfl, rfl⟩ rfl

set_option maxHeartbeats 2000000 in
theorem c_copy_null10 (S : ST) (lo fm sz : Nat) (hH : HR 40 lo fm sz S) (lo2 fm2 sz2 : Nat) (hH2 : HR 38 lo2 fm2 sz2 S) (a b n : Int32) (hnl : ¬ (lo = 0 ∧ lo2 = 0)) : EX me_N_copy 2 [.ref 0, .int (nI 1), .int a, .int (nI 0), .int b, .int n] S (fun r u => r = some (.int ((-10) - nI 1)) ∧ u = pt S 0 10 (nI 1)) := by
  refine EX.of mok_N_copy (Nat.le_of_ble_eq_true rfl) ?_
  obtain ⟨g3, g1, g2, hl1, hf2, hs60⟩ := id hH
  obtain ⟨p3, p1, p2, pl1, pf2, ps60⟩ := id hH2
  refine run_ok 2 (c' := (2, [(0, .ref 0), (1, .int (nI 1)), (2, .int a), (3, .int (nI 0)), (4, .int b), (5, .int n)], [.int (nI 4), .int (nI 1)], S)) rfl ?_
  refine x_callS [.int (nI 1), .int (nI 4)] rfl cs_N_isBelow.1 lk_6_73 cs_N_isBelow.2.1 rfl rfl (Nat.le_of_ble_eq_true rfl) (by decide) cs_N_isBelow.2.2 (c_isBelow S (nI 1) (nI 4)) ?_
  rintro r u ⟨hr, hu⟩
  rw [hr, hu]
  clear hr hu r u
  refine x_ifB_eq 16 rfl rfl (fun hn => absurd hn (fun z => z (inr_t (by decide) (by decide)))) (fun h5 => ?_)
  refine run_ok 2 (c' := (10, [(0, .ref 0), (1, .int (nI 1)), (2, .int a), (3, .int (nI 0)), (4, .int b), (5, .int n)], [.int (nI 4), .int (nI 0)], S)) rfl ?_
  refine x_callS [.int (nI 0), .int (nI 4)] rfl cs_N_isBelow.1 lk_6_73 cs_N_isBelow.2.1 rfl rfl (Nat.le_of_ble_eq_true rfl) (by decide) cs_N_isBelow.2.2 (c_isBelow S (nI 0) (nI 4)) ?_
  rintro r u ⟨hr, hu⟩
  rw [hr, hu]
  clear hr hu r u
  refine x_ifB_ne 19 rfl rfl (fun h13 => ?_) (fun hn => absurd (inr_t (by decide) (by decide)) hn)
  refine run_ok 3 (c' := (24, [(0, .ref 0), (1, .int (nI 1)), (2, .int a), (3, .int (nI 0)), (4, .int b), (5, .int n)], [.int (nI 1), .ref 37], S)) rfl ?_
  refine x_aald (t := 40) rfl rfl (vp_in_nI (by decide) (by decide)) (by decide) ?_
  refine run_ok 4 (c' := (32, [(0, .ref 0), (1, .int (nI 1)), (2, .int a), (3, .int (nI 0)), (4, .int b), (5, .int n), (6, .ref 40)], [.int (nI 0), .ref 37], S)) rfl ?_
  refine x_aald (t := 38) rfl rfl (vp_in_nI (by decide) (by decide)) (by decide) ?_
  refine run_ok 3 (c' := (40, [(0, .ref 0), (1, .int (nI 1)), (2, .int a), (3, .int (nI 0)), (4, .int b), (5, .int n), (6, .ref 40), (7, .ref 38)], [.int (S.1 40 3)], S)) rfl ?_
  refine x_top (v' := nI lo) g3 ?_
  refine x_ifN_ne 51 rfl rfl (by omega) (fun h40 => ?_) (fun h40 => ?_)
  · refine run_ok 2 (c' := (53, [(0, .ref 0), (1, .int (nI 1)), (2, .int a), (3, .int (nI 0)), (4, .int b), (5, .int n), (6, .ref 40), (7, .ref 38)], [.int (nI 1), .ref 0], S)) rfl ?_
    refine x_callV [.int (nI 1)] rfl cv_N_find.1 lk_6_134 cv_N_find.2.1 cv_N_find.2.2.1 rfl cv_N_find.2.2.2.1 rfl rfl (Nat.le_of_ble_eq_true rfl) (by decide) cv_N_find.2.2.2.2 (c_find S (1)) ?_
    rintro r x ⟨hr, hu⟩
    rw [hr, hu]
    clear hr hu r x
    exact x_ret (r := some (.int ((-10) - nI 1))) rfl rfl trivial ⟨rfl, rfl⟩ rfl
  · refine run_ok 2 (c' := (48, [(0, .ref 0), (1, .int (nI 1)), (2, .int a), (3, .int (nI 0)), (4, .int b), (5, .int n), (6, .ref 40), (7, .ref 38)], [.int (S.1 38 3)], S)) rfl ?_
    refine x_top (v' := nI lo2) p3 ?_
    refine x_ifN_eq 57 rfl rfl (by omega) (fun h48 => ?_) (fun h48 => ?_)
    · exact absurd hnl (by omega)
    · refine run_ok 2 (c' := (53, [(0, .ref 0), (1, .int (nI 1)), (2, .int a), (3, .int (nI 0)), (4, .int b), (5, .int n), (6, .ref 40), (7, .ref 38)], [.int (nI 1), .ref 0], S)) rfl ?_
      refine x_callV [.int (nI 1)] rfl cv_N_find.1 lk_6_134 cv_N_find.2.1 cv_N_find.2.2.1 rfl cv_N_find.2.2.2.1 rfl rfl (Nat.le_of_ble_eq_true rfl) (by decide) cv_N_find.2.2.2.2 (c_find S (1)) ?_
      rintro r x ⟨hr, hu⟩
      rw [hr, hu]
      clear hr hu r x
      exact x_ret (r := some (.int ((-10) - nI 1))) rfl rfl trivial ⟨rfl, rfl⟩ rfl

set_option maxHeartbeats 2000000 in
theorem c_copy_store10 (S : ST) (lo fm sz : Nat) (hH : HR 40 lo fm sz S) (lo2 fm2 sz2 : Nat) (hH2 : HR 38 lo2 fm2 sz2 S) (a b n : Int32) (hz1 : lo = 0) (hz2 : lo2 = 0) (hst : ¬ fm = fm2) : EX me_N_copy 2 [.ref 0, .int (nI 1), .int a, .int (nI 0), .int b, .int n] S (fun r u => r = some (.int ((-10) - nI 4)) ∧ u = pt S 0 10 (nI 4)) := by
  refine EX.of mok_N_copy (Nat.le_of_ble_eq_true rfl) ?_
  obtain ⟨g3, g1, g2, hl1, hf2, hs60⟩ := id hH
  obtain ⟨p3, p1, p2, pl1, pf2, ps60⟩ := id hH2
  refine run_ok 2 (c' := (2, [(0, .ref 0), (1, .int (nI 1)), (2, .int a), (3, .int (nI 0)), (4, .int b), (5, .int n)], [.int (nI 4), .int (nI 1)], S)) rfl ?_
  refine x_callS [.int (nI 1), .int (nI 4)] rfl cs_N_isBelow.1 lk_6_73 cs_N_isBelow.2.1 rfl rfl (Nat.le_of_ble_eq_true rfl) (by decide) cs_N_isBelow.2.2 (c_isBelow S (nI 1) (nI 4)) ?_
  rintro r u ⟨hr, hu⟩
  rw [hr, hu]
  clear hr hu r u
  refine x_ifB_eq 16 rfl rfl (fun hn => absurd hn (fun z => z (inr_t (by decide) (by decide)))) (fun h5 => ?_)
  refine run_ok 2 (c' := (10, [(0, .ref 0), (1, .int (nI 1)), (2, .int a), (3, .int (nI 0)), (4, .int b), (5, .int n)], [.int (nI 4), .int (nI 0)], S)) rfl ?_
  refine x_callS [.int (nI 0), .int (nI 4)] rfl cs_N_isBelow.1 lk_6_73 cs_N_isBelow.2.1 rfl rfl (Nat.le_of_ble_eq_true rfl) (by decide) cs_N_isBelow.2.2 (c_isBelow S (nI 0) (nI 4)) ?_
  rintro r u ⟨hr, hu⟩
  rw [hr, hu]
  clear hr hu r u
  refine x_ifB_ne 19 rfl rfl (fun h13 => ?_) (fun hn => absurd (inr_t (by decide) (by decide)) hn)
  refine run_ok 3 (c' := (24, [(0, .ref 0), (1, .int (nI 1)), (2, .int a), (3, .int (nI 0)), (4, .int b), (5, .int n)], [.int (nI 1), .ref 37], S)) rfl ?_
  refine x_aald (t := 40) rfl rfl (vp_in_nI (by decide) (by decide)) (by decide) ?_
  refine run_ok 4 (c' := (32, [(0, .ref 0), (1, .int (nI 1)), (2, .int a), (3, .int (nI 0)), (4, .int b), (5, .int n), (6, .ref 40)], [.int (nI 0), .ref 37], S)) rfl ?_
  refine x_aald (t := 38) rfl rfl (vp_in_nI (by decide) (by decide)) (by decide) ?_
  refine run_ok 3 (c' := (40, [(0, .ref 0), (1, .int (nI 1)), (2, .int a), (3, .int (nI 0)), (4, .int b), (5, .int n), (6, .ref 40), (7, .ref 38)], [.int (S.1 40 3)], S)) rfl ?_
  refine x_top (v' := nI lo) g3 ?_
  refine x_ifN_ne 51 rfl rfl (by omega) (fun hn => absurd hz1 hn) (fun h40 => ?_)
  refine run_ok 2 (c' := (48, [(0, .ref 0), (1, .int (nI 1)), (2, .int a), (3, .int (nI 0)), (4, .int b), (5, .int n), (6, .ref 40), (7, .ref 38)], [.int (S.1 38 3)], S)) rfl ?_
  refine x_top (v' := nI lo2) p3 ?_
  refine x_ifN_eq 57 rfl rfl (by omega) (fun h48 => ?_) (fun hn => absurd hz2 hn)
  refine run_ok 2 (c' := (62, [(0, .ref 0), (1, .int (nI 1)), (2, .int a), (3, .int (nI 0)), (4, .int b), (5, .int n), (6, .ref 40), (7, .ref 38)], [.int (S.1 40 1)], S)) rfl ?_
  refine x_top (v' := nI fm) g1 ?_
  refine run_ok 2 (c' := (67, [(0, .ref 0), (1, .int (nI 1)), (2, .int a), (3, .int (nI 0)), (4, .int b), (5, .int n), (6, .ref 40), (7, .ref 38)], [.int (S.1 38 1), .int (nI fm)], S)) rfl ?_
  refine x_top (v' := nI fm2) p1 ?_
  refine x_icmpN_eq 76 rfl rfl (by omega) (by omega) (fun hn => absurd hn hst) (fun h67 => ?_)
  refine run_ok 2 (c' := (72, [(0, .ref 0), (1, .int (nI 1)), (2, .int a), (3, .int (nI 0)), (4, .int b), (5, .int n), (6, .ref 40), (7, .ref 38)], [.int (nI 4), .ref 0], S)) rfl ?_
  refine x_callV [.int (nI 4)] rfl cv_N_find.1 lk_6_134 cv_N_find.2.1 cv_N_find.2.2.1 rfl cv_N_find.2.2.2.1 rfl rfl (Nat.le_of_ble_eq_true rfl) (by decide) cv_N_find.2.2.2.2 (c_find S (4)) ?_
  rintro r x ⟨hr, hu⟩
  rw [hr, hu]
  clear hr hu r x
  exact x_ret (r := some (.int ((-10) - nI 4))) rfl rfl trivial ⟨rfl, rfl⟩ rfl

set_option maxHeartbeats 2000000 in
theorem c_copy_index10 (S : ST) (lo fm sz : Nat) (hH : HR 40 lo fm sz S) (lo2 fm2 sz2 : Nat) (hH2 : HR 38 lo2 fm2 sz2 S) (a b n : Int32) (hz1 : lo = 0) (hz2 : lo2 = 0) (hst : fm = fm2) (hix : ¬ (hasI sz a n ∧ hasI sz2 b n)) : EX me_N_copy 2 [.ref 0, .int (nI 1), .int a, .int (nI 0), .int b, .int n] S (fun r u => r = some (.int ((-10) - nI 2)) ∧ u = pt S 0 10 (nI 2)) := by
  refine EX.of mok_N_copy (Nat.le_of_ble_eq_true rfl) ?_
  obtain ⟨g3, g1, g2, hl1, hf2, hs60⟩ := id hH
  obtain ⟨p3, p1, p2, pl1, pf2, ps60⟩ := id hH2
  refine run_ok 2 (c' := (2, [(0, .ref 0), (1, .int (nI 1)), (2, .int a), (3, .int (nI 0)), (4, .int b), (5, .int n)], [.int (nI 4), .int (nI 1)], S)) rfl ?_
  refine x_callS [.int (nI 1), .int (nI 4)] rfl cs_N_isBelow.1 lk_6_73 cs_N_isBelow.2.1 rfl rfl (Nat.le_of_ble_eq_true rfl) (by decide) cs_N_isBelow.2.2 (c_isBelow S (nI 1) (nI 4)) ?_
  rintro r u ⟨hr, hu⟩
  rw [hr, hu]
  clear hr hu r u
  refine x_ifB_eq 16 rfl rfl (fun hn => absurd hn (fun z => z (inr_t (by decide) (by decide)))) (fun h5 => ?_)
  refine run_ok 2 (c' := (10, [(0, .ref 0), (1, .int (nI 1)), (2, .int a), (3, .int (nI 0)), (4, .int b), (5, .int n)], [.int (nI 4), .int (nI 0)], S)) rfl ?_
  refine x_callS [.int (nI 0), .int (nI 4)] rfl cs_N_isBelow.1 lk_6_73 cs_N_isBelow.2.1 rfl rfl (Nat.le_of_ble_eq_true rfl) (by decide) cs_N_isBelow.2.2 (c_isBelow S (nI 0) (nI 4)) ?_
  rintro r u ⟨hr, hu⟩
  rw [hr, hu]
  clear hr hu r u
  refine x_ifB_ne 19 rfl rfl (fun h13 => ?_) (fun hn => absurd (inr_t (by decide) (by decide)) hn)
  refine run_ok 3 (c' := (24, [(0, .ref 0), (1, .int (nI 1)), (2, .int a), (3, .int (nI 0)), (4, .int b), (5, .int n)], [.int (nI 1), .ref 37], S)) rfl ?_
  refine x_aald (t := 40) rfl rfl (vp_in_nI (by decide) (by decide)) (by decide) ?_
  refine run_ok 4 (c' := (32, [(0, .ref 0), (1, .int (nI 1)), (2, .int a), (3, .int (nI 0)), (4, .int b), (5, .int n), (6, .ref 40)], [.int (nI 0), .ref 37], S)) rfl ?_
  refine x_aald (t := 38) rfl rfl (vp_in_nI (by decide) (by decide)) (by decide) ?_
  refine run_ok 3 (c' := (40, [(0, .ref 0), (1, .int (nI 1)), (2, .int a), (3, .int (nI 0)), (4, .int b), (5, .int n), (6, .ref 40), (7, .ref 38)], [.int (S.1 40 3)], S)) rfl ?_
  refine x_top (v' := nI lo) g3 ?_
  refine x_ifN_ne 51 rfl rfl (by omega) (fun hn => absurd hz1 hn) (fun h40 => ?_)
  refine run_ok 2 (c' := (48, [(0, .ref 0), (1, .int (nI 1)), (2, .int a), (3, .int (nI 0)), (4, .int b), (5, .int n), (6, .ref 40), (7, .ref 38)], [.int (S.1 38 3)], S)) rfl ?_
  refine x_top (v' := nI lo2) p3 ?_
  refine x_ifN_eq 57 rfl rfl (by omega) (fun h48 => ?_) (fun hn => absurd hz2 hn)
  refine run_ok 2 (c' := (62, [(0, .ref 0), (1, .int (nI 1)), (2, .int a), (3, .int (nI 0)), (4, .int b), (5, .int n), (6, .ref 40), (7, .ref 38)], [.int (S.1 40 1)], S)) rfl ?_
  refine x_top (v' := nI fm) g1 ?_
  refine run_ok 2 (c' := (67, [(0, .ref 0), (1, .int (nI 1)), (2, .int a), (3, .int (nI 0)), (4, .int b), (5, .int n), (6, .ref 40), (7, .ref 38)], [.int (S.1 38 1), .int (nI fm)], S)) rfl ?_
  refine x_top (v' := nI fm2) p1 ?_
  refine x_icmpN_eq 76 rfl rfl (by omega) (by omega) (fun h67 => ?_) (fun hn => absurd hst hn)
  refine run_ok 3 (c' := (81, [(0, .ref 0), (1, .int (nI 1)), (2, .int a), (3, .int (nI 0)), (4, .int b), (5, .int n), (6, .ref 40), (7, .ref 38)], [.int n, .int a, .ref 40], S)) rfl ?_
  refine x_callV [.int a, .int n] rfl cv_H_hasItems.1 lk_6_265 cv_H_hasItems.2.1 cv_H_hasItems.2.2.1 rfl cv_H_hasItems.2.2.2.1 rfl rfl (Nat.le_of_ble_eq_true rfl) (by decide) cv_H_hasItems.2.2.2.2 (c_hasItems1 S lo fm sz hH (a) (n)) ?_
  rintro r x ⟨hr, hu⟩
  rw [hr, hu]
  clear hr hu r x
  refine x_ifB_eq 99 rfl rfl (fun h84 => ?_) (fun h84 => ?_)
  · refine run_ok 2 (c' := (101, [(0, .ref 0), (1, .int (nI 1)), (2, .int a), (3, .int (nI 0)), (4, .int b), (5, .int n), (6, .ref 40), (7, .ref 38)], [.int (nI 2), .ref 0], S)) rfl ?_
    refine x_callV [.int (nI 2)] rfl cv_N_find.1 lk_6_134 cv_N_find.2.1 cv_N_find.2.2.1 rfl cv_N_find.2.2.2.1 rfl rfl (Nat.le_of_ble_eq_true rfl) (by decide) cv_N_find.2.2.2.2 (c_find S (2)) ?_
    rintro r x ⟨hr, hu⟩
    rw [hr, hu]
    clear hr hu r x
    exact x_ret (r := some (.int ((-10) - nI 2))) rfl rfl trivial ⟨rfl, rfl⟩ rfl
  · refine run_ok 3 (c' := (93, [(0, .ref 0), (1, .int (nI 1)), (2, .int a), (3, .int (nI 0)), (4, .int b), (5, .int n), (6, .ref 40), (7, .ref 38)], [.int n, .int b, .ref 38], S)) rfl ?_
    refine x_callV [.int b, .int n] rfl cv_H_hasItems.1 lk_6_265 cv_H_hasItems.2.1 cv_H_hasItems.2.2.1 rfl cv_H_hasItems.2.2.2.1 rfl rfl (Nat.le_of_ble_eq_true rfl) (by decide) cv_H_hasItems.2.2.2.2 (c_hasItems0 S lo2 fm2 sz2 hH2 (b) (n)) ?_
    rintro r x ⟨hr, hu⟩
    rw [hr, hu]
    clear hr hu r x
    refine x_ifB_ne 105 rfl rfl (fun h96 => ?_) (fun h96 => ?_)
    · exact absurd ⟨h84, h96⟩ hix
    · refine run_ok 2 (c' := (101, [(0, .ref 0), (1, .int (nI 1)), (2, .int a), (3, .int (nI 0)), (4, .int b), (5, .int n), (6, .ref 40), (7, .ref 38)], [.int (nI 2), .ref 0], S)) rfl ?_
      refine x_callV [.int (nI 2)] rfl cv_N_find.1 lk_6_134 cv_N_find.2.1 cv_N_find.2.2.1 rfl cv_N_find.2.2.2.1 rfl rfl (Nat.le_of_ble_eq_true rfl) (by decide) cv_N_find.2.2.2.2 (c_find S (2)) ?_
      rintro r x ⟨hr, hu⟩
      rw [hr, hu]
      clear hr hu r x
      exact x_ret (r := some (.int ((-10) - nI 2))) rfl rfl trivial ⟨rfl, rfl⟩ rfl

set_option maxHeartbeats 2000000 in
theorem c_copy_ok10 (S : ST) (lo fm sz : Nat) (hH : HR 40 lo fm sz S) (lo2 fm2 sz2 : Nat) (hH2 : HR 38 lo2 fm2 sz2 S) (a b n : Nat) (hz1 : lo = 0) (hz2 : lo2 = 0) (hst : fm = fm2) (ha : a + n ≤ sz) (hb : b + n ≤ sz2) : EX me_N_copy 2 [.ref 0, .int (nI 1), .int (nI a), .int (nI 0), .int (nI b), .int (nI n)] S (fun r u => r = some (.int 1) ∧ u = rwr S 39 (va_cpy (S.1 41) (S.1 39) a b n)) := by
  refine EX.of mok_N_copy (Nat.le_of_ble_eq_true rfl) ?_
  obtain ⟨g3, g1, g2, hl1, hf2, hs60⟩ := id hH
  obtain ⟨p3, p1, p2, pl1, pf2, ps60⟩ := id hH2
  refine run_ok 2 (c' := (2, [(0, .ref 0), (1, .int (nI 1)), (2, .int (nI a)), (3, .int (nI 0)), (4, .int (nI b)), (5, .int (nI n))], [.int (nI 4), .int (nI 1)], S)) rfl ?_
  refine x_callS [.int (nI 1), .int (nI 4)] rfl cs_N_isBelow.1 lk_6_73 cs_N_isBelow.2.1 rfl rfl (Nat.le_of_ble_eq_true rfl) (by decide) cs_N_isBelow.2.2 (c_isBelow S (nI 1) (nI 4)) ?_
  rintro r u ⟨hr, hu⟩
  rw [hr, hu]
  clear hr hu r u
  refine x_ifB_eq 16 rfl rfl (fun hn => absurd hn (fun z => z (inr_t (by decide) (by decide)))) (fun h5 => ?_)
  refine run_ok 2 (c' := (10, [(0, .ref 0), (1, .int (nI 1)), (2, .int (nI a)), (3, .int (nI 0)), (4, .int (nI b)), (5, .int (nI n))], [.int (nI 4), .int (nI 0)], S)) rfl ?_
  refine x_callS [.int (nI 0), .int (nI 4)] rfl cs_N_isBelow.1 lk_6_73 cs_N_isBelow.2.1 rfl rfl (Nat.le_of_ble_eq_true rfl) (by decide) cs_N_isBelow.2.2 (c_isBelow S (nI 0) (nI 4)) ?_
  rintro r u ⟨hr, hu⟩
  rw [hr, hu]
  clear hr hu r u
  refine x_ifB_ne 19 rfl rfl (fun h13 => ?_) (fun hn => absurd (inr_t (by decide) (by decide)) hn)
  refine run_ok 3 (c' := (24, [(0, .ref 0), (1, .int (nI 1)), (2, .int (nI a)), (3, .int (nI 0)), (4, .int (nI b)), (5, .int (nI n))], [.int (nI 1), .ref 37], S)) rfl ?_
  refine x_aald (t := 40) rfl rfl (vp_in_nI (by decide) (by decide)) (by decide) ?_
  refine run_ok 4 (c' := (32, [(0, .ref 0), (1, .int (nI 1)), (2, .int (nI a)), (3, .int (nI 0)), (4, .int (nI b)), (5, .int (nI n)), (6, .ref 40)], [.int (nI 0), .ref 37], S)) rfl ?_
  refine x_aald (t := 38) rfl rfl (vp_in_nI (by decide) (by decide)) (by decide) ?_
  refine run_ok 3 (c' := (40, [(0, .ref 0), (1, .int (nI 1)), (2, .int (nI a)), (3, .int (nI 0)), (4, .int (nI b)), (5, .int (nI n)), (6, .ref 40), (7, .ref 38)], [.int (S.1 40 3)], S)) rfl ?_
  refine x_top (v' := nI lo) g3 ?_
  refine x_ifN_ne 51 rfl rfl (by omega) (fun hn => absurd hz1 hn) (fun h40 => ?_)
  refine run_ok 2 (c' := (48, [(0, .ref 0), (1, .int (nI 1)), (2, .int (nI a)), (3, .int (nI 0)), (4, .int (nI b)), (5, .int (nI n)), (6, .ref 40), (7, .ref 38)], [.int (S.1 38 3)], S)) rfl ?_
  refine x_top (v' := nI lo2) p3 ?_
  refine x_ifN_eq 57 rfl rfl (by omega) (fun h48 => ?_) (fun hn => absurd hz2 hn)
  refine run_ok 2 (c' := (62, [(0, .ref 0), (1, .int (nI 1)), (2, .int (nI a)), (3, .int (nI 0)), (4, .int (nI b)), (5, .int (nI n)), (6, .ref 40), (7, .ref 38)], [.int (S.1 40 1)], S)) rfl ?_
  refine x_top (v' := nI fm) g1 ?_
  refine run_ok 2 (c' := (67, [(0, .ref 0), (1, .int (nI 1)), (2, .int (nI a)), (3, .int (nI 0)), (4, .int (nI b)), (5, .int (nI n)), (6, .ref 40), (7, .ref 38)], [.int (S.1 38 1), .int (nI fm)], S)) rfl ?_
  refine x_top (v' := nI fm2) p1 ?_
  refine x_icmpN_eq 76 rfl rfl (by omega) (by omega) (fun h67 => ?_) (fun hn => absurd hst hn)
  refine run_ok 3 (c' := (81, [(0, .ref 0), (1, .int (nI 1)), (2, .int (nI a)), (3, .int (nI 0)), (4, .int (nI b)), (5, .int (nI n)), (6, .ref 40), (7, .ref 38)], [.int (nI n), .int (nI a), .ref 40], S)) rfl ?_
  refine x_callV [.int (nI a), .int (nI n)] rfl cv_H_hasItems.1 lk_6_265 cv_H_hasItems.2.1 cv_H_hasItems.2.2.1 rfl cv_H_hasItems.2.2.2.1 rfl rfl (Nat.le_of_ble_eq_true rfl) (by decide) cv_H_hasItems.2.2.2.2 (c_hasItems1 S lo fm sz hH (nI a) (nI n)) ?_
  rintro r x ⟨hr, hu⟩
  rw [hr, hu]
  clear hr hu r x
  refine x_ifB_eq 99 rfl rfl (fun hn => absurd hn (fun z => z (hasI_t ha hs60))) (fun h84 => ?_)
  refine run_ok 3 (c' := (93, [(0, .ref 0), (1, .int (nI 1)), (2, .int (nI a)), (3, .int (nI 0)), (4, .int (nI b)), (5, .int (nI n)), (6, .ref 40), (7, .ref 38)], [.int (nI n), .int (nI b), .ref 38], S)) rfl ?_
  refine x_callV [.int (nI b), .int (nI n)] rfl cv_H_hasItems.1 lk_6_265 cv_H_hasItems.2.1 cv_H_hasItems.2.2.1 rfl cv_H_hasItems.2.2.2.1 rfl rfl (Nat.le_of_ble_eq_true rfl) (by decide) cv_H_hasItems.2.2.2.2 (c_hasItems0 S lo2 fm2 sz2 hH2 (nI b) (nI n)) ?_
  rintro r x ⟨hr, hu⟩
  rw [hr, hu]
  clear hr hu r x
  refine x_ifB_ne 105 rfl rfl (fun h96 => ?_) (fun hn => absurd (hasI_t hb ps60) hn)
  refine run_ok 7 (c' := (120, [(0, .ref 0), (1, .int (nI 1)), (2, .int (nI a)), (3, .int (nI 0)), (4, .int (nI b)), (5, .int (nI n)), (6, .ref 40), (7, .ref 38)], [.int (nI n), .int (nI b), .ref 39, .int (nI a), .ref 41], S)) rfl ?_
  refine x_copyN rfl lk_6_268 rfl rfl (by decide) (by decide) (by omega) (by omega) (Nat.le_of_ble_eq_true rfl) (by decide) ?_
  refine run_ok 1 (c' := (124, [(0, .ref 0), (1, .int (nI 1)), (2, .int (nI a)), (3, .int (nI 0)), (4, .int (nI b)), (5, .int (nI n)), (6, .ref 40), (7, .ref 38)], [.int (nI 1)], (rwr S 39 (va_cpy (S.1 41) (S.1 39) a b n)))) rfl ?_
  exact x_ret (r := some (.int (nI 1))) rfl rfl trivial ⟨rfl, rfl⟩ rfl

set_option maxHeartbeats 2000000 in
theorem c_copy_null11 (S : ST) (lo fm sz : Nat) (hH : HR 40 lo fm sz S) (a b n : Int32) (hnl : ¬ (lo = 0 ∧ lo = 0)) : EX me_N_copy 2 [.ref 0, .int (nI 1), .int a, .int (nI 1), .int b, .int n] S (fun r u => r = some (.int ((-10) - nI 1)) ∧ u = pt S 0 10 (nI 1)) := by
  refine EX.of mok_N_copy (Nat.le_of_ble_eq_true rfl) ?_
  obtain ⟨g3, g1, g2, hl1, hf2, hs60⟩ := id hH
  refine run_ok 2 (c' := (2, [(0, .ref 0), (1, .int (nI 1)), (2, .int a), (3, .int (nI 1)), (4, .int b), (5, .int n)], [.int (nI 4), .int (nI 1)], S)) rfl ?_
  refine x_callS [.int (nI 1), .int (nI 4)] rfl cs_N_isBelow.1 lk_6_73 cs_N_isBelow.2.1 rfl rfl (Nat.le_of_ble_eq_true rfl) (by decide) cs_N_isBelow.2.2 (c_isBelow S (nI 1) (nI 4)) ?_
  rintro r u ⟨hr, hu⟩
  rw [hr, hu]
  clear hr hu r u
  refine x_ifB_eq 16 rfl rfl (fun hn => absurd hn (fun z => z (inr_t (by decide) (by decide)))) (fun h5 => ?_)
  refine run_ok 2 (c' := (10, [(0, .ref 0), (1, .int (nI 1)), (2, .int a), (3, .int (nI 1)), (4, .int b), (5, .int n)], [.int (nI 4), .int (nI 1)], S)) rfl ?_
  refine x_callS [.int (nI 1), .int (nI 4)] rfl cs_N_isBelow.1 lk_6_73 cs_N_isBelow.2.1 rfl rfl (Nat.le_of_ble_eq_true rfl) (by decide) cs_N_isBelow.2.2 (c_isBelow S (nI 1) (nI 4)) ?_
  rintro r u ⟨hr, hu⟩
  rw [hr, hu]
  clear hr hu r u
  refine x_ifB_ne 19 rfl rfl (fun h13 => ?_) (fun hn => absurd (inr_t (by decide) (by decide)) hn)
  refine run_ok 3 (c' := (24, [(0, .ref 0), (1, .int (nI 1)), (2, .int a), (3, .int (nI 1)), (4, .int b), (5, .int n)], [.int (nI 1), .ref 37], S)) rfl ?_
  refine x_aald (t := 40) rfl rfl (vp_in_nI (by decide) (by decide)) (by decide) ?_
  refine run_ok 4 (c' := (32, [(0, .ref 0), (1, .int (nI 1)), (2, .int a), (3, .int (nI 1)), (4, .int b), (5, .int n), (6, .ref 40)], [.int (nI 1), .ref 37], S)) rfl ?_
  refine x_aald (t := 40) rfl rfl (vp_in_nI (by decide) (by decide)) (by decide) ?_
  refine run_ok 3 (c' := (40, [(0, .ref 0), (1, .int (nI 1)), (2, .int a), (3, .int (nI 1)), (4, .int b), (5, .int n), (6, .ref 40), (7, .ref 40)], [.int (S.1 40 3)], S)) rfl ?_
  refine x_top (v' := nI lo) g3 ?_
  refine x_ifN_ne 51 rfl rfl (by omega) (fun h40 => ?_) (fun h40 => ?_)
  · refine run_ok 2 (c' := (53, [(0, .ref 0), (1, .int (nI 1)), (2, .int a), (3, .int (nI 1)), (4, .int b), (5, .int n), (6, .ref 40), (7, .ref 40)], [.int (nI 1), .ref 0], S)) rfl ?_
    refine x_callV [.int (nI 1)] rfl cv_N_find.1 lk_6_134 cv_N_find.2.1 cv_N_find.2.2.1 rfl cv_N_find.2.2.2.1 rfl rfl (Nat.le_of_ble_eq_true rfl) (by decide) cv_N_find.2.2.2.2 (c_find S (1)) ?_
    rintro r x ⟨hr, hu⟩
    rw [hr, hu]
    clear hr hu r x
    exact x_ret (r := some (.int ((-10) - nI 1))) rfl rfl trivial ⟨rfl, rfl⟩ rfl
  · refine run_ok 2 (c' := (48, [(0, .ref 0), (1, .int (nI 1)), (2, .int a), (3, .int (nI 1)), (4, .int b), (5, .int n), (6, .ref 40), (7, .ref 40)], [.int (S.1 40 3)], S)) rfl ?_
    refine x_top (v' := nI lo) g3 ?_
    refine x_ifN_eq 57 rfl rfl (by omega) (fun h48 => ?_) (fun h48 => ?_)
    · exact absurd hnl (by omega)
    · refine run_ok 2 (c' := (53, [(0, .ref 0), (1, .int (nI 1)), (2, .int a), (3, .int (nI 1)), (4, .int b), (5, .int n), (6, .ref 40), (7, .ref 40)], [.int (nI 1), .ref 0], S)) rfl ?_
      refine x_callV [.int (nI 1)] rfl cv_N_find.1 lk_6_134 cv_N_find.2.1 cv_N_find.2.2.1 rfl cv_N_find.2.2.2.1 rfl rfl (Nat.le_of_ble_eq_true rfl) (by decide) cv_N_find.2.2.2.2 (c_find S (1)) ?_
      rintro r x ⟨hr, hu⟩
      rw [hr, hu]
      clear hr hu r x
      exact x_ret (r := some (.int ((-10) - nI 1))) rfl rfl trivial ⟨rfl, rfl⟩ rfl

set_option maxHeartbeats 2000000 in
theorem c_copy_index11 (S : ST) (lo fm sz : Nat) (hH : HR 40 lo fm sz S) (a b n : Int32) (hz1 : lo = 0) (hz2 : lo = 0) (hix : ¬ (hasI sz a n ∧ hasI sz b n)) : EX me_N_copy 2 [.ref 0, .int (nI 1), .int a, .int (nI 1), .int b, .int n] S (fun r u => r = some (.int ((-10) - nI 2)) ∧ u = pt S 0 10 (nI 2)) := by
  refine EX.of mok_N_copy (Nat.le_of_ble_eq_true rfl) ?_
  obtain ⟨g3, g1, g2, hl1, hf2, hs60⟩ := id hH
  have hst : fm = fm := rfl
  refine run_ok 2 (c' := (2, [(0, .ref 0), (1, .int (nI 1)), (2, .int a), (3, .int (nI 1)), (4, .int b), (5, .int n)], [.int (nI 4), .int (nI 1)], S)) rfl ?_
  refine x_callS [.int (nI 1), .int (nI 4)] rfl cs_N_isBelow.1 lk_6_73 cs_N_isBelow.2.1 rfl rfl (Nat.le_of_ble_eq_true rfl) (by decide) cs_N_isBelow.2.2 (c_isBelow S (nI 1) (nI 4)) ?_
  rintro r u ⟨hr, hu⟩
  rw [hr, hu]
  clear hr hu r u
  refine x_ifB_eq 16 rfl rfl (fun hn => absurd hn (fun z => z (inr_t (by decide) (by decide)))) (fun h5 => ?_)
  refine run_ok 2 (c' := (10, [(0, .ref 0), (1, .int (nI 1)), (2, .int a), (3, .int (nI 1)), (4, .int b), (5, .int n)], [.int (nI 4), .int (nI 1)], S)) rfl ?_
  refine x_callS [.int (nI 1), .int (nI 4)] rfl cs_N_isBelow.1 lk_6_73 cs_N_isBelow.2.1 rfl rfl (Nat.le_of_ble_eq_true rfl) (by decide) cs_N_isBelow.2.2 (c_isBelow S (nI 1) (nI 4)) ?_
  rintro r u ⟨hr, hu⟩
  rw [hr, hu]
  clear hr hu r u
  refine x_ifB_ne 19 rfl rfl (fun h13 => ?_) (fun hn => absurd (inr_t (by decide) (by decide)) hn)
  refine run_ok 3 (c' := (24, [(0, .ref 0), (1, .int (nI 1)), (2, .int a), (3, .int (nI 1)), (4, .int b), (5, .int n)], [.int (nI 1), .ref 37], S)) rfl ?_
  refine x_aald (t := 40) rfl rfl (vp_in_nI (by decide) (by decide)) (by decide) ?_
  refine run_ok 4 (c' := (32, [(0, .ref 0), (1, .int (nI 1)), (2, .int a), (3, .int (nI 1)), (4, .int b), (5, .int n), (6, .ref 40)], [.int (nI 1), .ref 37], S)) rfl ?_
  refine x_aald (t := 40) rfl rfl (vp_in_nI (by decide) (by decide)) (by decide) ?_
  refine run_ok 3 (c' := (40, [(0, .ref 0), (1, .int (nI 1)), (2, .int a), (3, .int (nI 1)), (4, .int b), (5, .int n), (6, .ref 40), (7, .ref 40)], [.int (S.1 40 3)], S)) rfl ?_
  refine x_top (v' := nI lo) g3 ?_
  refine x_ifN_ne 51 rfl rfl (by omega) (fun hn => absurd hz1 hn) (fun h40 => ?_)
  refine run_ok 2 (c' := (48, [(0, .ref 0), (1, .int (nI 1)), (2, .int a), (3, .int (nI 1)), (4, .int b), (5, .int n), (6, .ref 40), (7, .ref 40)], [.int (S.1 40 3)], S)) rfl ?_
  refine x_top (v' := nI lo) g3 ?_
  refine x_ifN_eq 57 rfl rfl (by omega) (fun h48 => ?_) (fun hn => absurd hz2 hn)
  refine run_ok 2 (c' := (62, [(0, .ref 0), (1, .int (nI 1)), (2, .int a), (3, .int (nI 1)), (4, .int b), (5, .int n), (6, .ref 40), (7, .ref 40)], [.int (S.1 40 1)], S)) rfl ?_
  refine x_top (v' := nI fm) g1 ?_
  refine run_ok 2 (c' := (67, [(0, .ref 0), (1, .int (nI 1)), (2, .int a), (3, .int (nI 1)), (4, .int b), (5, .int n), (6, .ref 40), (7, .ref 40)], [.int (S.1 40 1), .int (nI fm)], S)) rfl ?_
  refine x_top (v' := nI fm) g1 ?_
  refine x_icmpN_eq 76 rfl rfl (by omega) (by omega) (fun h67 => ?_) (fun hn => absurd hst hn)
  refine run_ok 3 (c' := (81, [(0, .ref 0), (1, .int (nI 1)), (2, .int a), (3, .int (nI 1)), (4, .int b), (5, .int n), (6, .ref 40), (7, .ref 40)], [.int n, .int a, .ref 40], S)) rfl ?_
  refine x_callV [.int a, .int n] rfl cv_H_hasItems.1 lk_6_265 cv_H_hasItems.2.1 cv_H_hasItems.2.2.1 rfl cv_H_hasItems.2.2.2.1 rfl rfl (Nat.le_of_ble_eq_true rfl) (by decide) cv_H_hasItems.2.2.2.2 (c_hasItems1 S lo fm sz hH (a) (n)) ?_
  rintro r x ⟨hr, hu⟩
  rw [hr, hu]
  clear hr hu r x
  refine x_ifB_eq 99 rfl rfl (fun h84 => ?_) (fun h84 => ?_)
  · refine run_ok 2 (c' := (101, [(0, .ref 0), (1, .int (nI 1)), (2, .int a), (3, .int (nI 1)), (4, .int b), (5, .int n), (6, .ref 40), (7, .ref 40)], [.int (nI 2), .ref 0], S)) rfl ?_
    refine x_callV [.int (nI 2)] rfl cv_N_find.1 lk_6_134 cv_N_find.2.1 cv_N_find.2.2.1 rfl cv_N_find.2.2.2.1 rfl rfl (Nat.le_of_ble_eq_true rfl) (by decide) cv_N_find.2.2.2.2 (c_find S (2)) ?_
    rintro r x ⟨hr, hu⟩
    rw [hr, hu]
    clear hr hu r x
    exact x_ret (r := some (.int ((-10) - nI 2))) rfl rfl trivial ⟨rfl, rfl⟩ rfl
  · refine run_ok 3 (c' := (93, [(0, .ref 0), (1, .int (nI 1)), (2, .int a), (3, .int (nI 1)), (4, .int b), (5, .int n), (6, .ref 40), (7, .ref 40)], [.int n, .int b, .ref 40], S)) rfl ?_
    refine x_callV [.int b, .int n] rfl cv_H_hasItems.1 lk_6_265 cv_H_hasItems.2.1 cv_H_hasItems.2.2.1 rfl cv_H_hasItems.2.2.2.1 rfl rfl (Nat.le_of_ble_eq_true rfl) (by decide) cv_H_hasItems.2.2.2.2 (c_hasItems1 S lo fm sz hH (b) (n)) ?_
    rintro r x ⟨hr, hu⟩
    rw [hr, hu]
    clear hr hu r x
    refine x_ifB_ne 105 rfl rfl (fun h96 => ?_) (fun h96 => ?_)
    · exact absurd ⟨h84, h96⟩ hix
    · refine run_ok 2 (c' := (101, [(0, .ref 0), (1, .int (nI 1)), (2, .int a), (3, .int (nI 1)), (4, .int b), (5, .int n), (6, .ref 40), (7, .ref 40)], [.int (nI 2), .ref 0], S)) rfl ?_
      refine x_callV [.int (nI 2)] rfl cv_N_find.1 lk_6_134 cv_N_find.2.1 cv_N_find.2.2.1 rfl cv_N_find.2.2.2.1 rfl rfl (Nat.le_of_ble_eq_true rfl) (by decide) cv_N_find.2.2.2.2 (c_find S (2)) ?_
      rintro r x ⟨hr, hu⟩
      rw [hr, hu]
      clear hr hu r x
      exact x_ret (r := some (.int ((-10) - nI 2))) rfl rfl trivial ⟨rfl, rfl⟩ rfl

set_option maxHeartbeats 2000000 in
theorem c_copy_ok11 (S : ST) (lo fm sz : Nat) (hH : HR 40 lo fm sz S) (a b n : Nat) (hz1 : lo = 0) (hz2 : lo = 0) (ha : a + n ≤ sz) (hb : b + n ≤ sz) : EX me_N_copy 2 [.ref 0, .int (nI 1), .int (nI a), .int (nI 1), .int (nI b), .int (nI n)] S (fun r u => r = some (.int 1) ∧ u = rwr S 41 (va_cpy (S.1 41) (S.1 41) a b n)) := by
  refine EX.of mok_N_copy (Nat.le_of_ble_eq_true rfl) ?_
  obtain ⟨g3, g1, g2, hl1, hf2, hs60⟩ := id hH
  have hst : fm = fm := rfl
  refine run_ok 2 (c' := (2, [(0, .ref 0), (1, .int (nI 1)), (2, .int (nI a)), (3, .int (nI 1)), (4, .int (nI b)), (5, .int (nI n))], [.int (nI 4), .int (nI 1)], S)) rfl ?_
  refine x_callS [.int (nI 1), .int (nI 4)] rfl cs_N_isBelow.1 lk_6_73 cs_N_isBelow.2.1 rfl rfl (Nat.le_of_ble_eq_true rfl) (by decide) cs_N_isBelow.2.2 (c_isBelow S (nI 1) (nI 4)) ?_
  rintro r u ⟨hr, hu⟩
  rw [hr, hu]
  clear hr hu r u
  refine x_ifB_eq 16 rfl rfl (fun hn => absurd hn (fun z => z (inr_t (by decide) (by decide)))) (fun h5 => ?_)
  refine run_ok 2 (c' := (10, [(0, .ref 0), (1, .int (nI 1)), (2, .int (nI a)), (3, .int (nI 1)), (4, .int (nI b)), (5, .int (nI n))], [.int (nI 4), .int (nI 1)], S)) rfl ?_
  refine x_callS [.int (nI 1), .int (nI 4)] rfl cs_N_isBelow.1 lk_6_73 cs_N_isBelow.2.1 rfl rfl (Nat.le_of_ble_eq_true rfl) (by decide) cs_N_isBelow.2.2 (c_isBelow S (nI 1) (nI 4)) ?_
  rintro r u ⟨hr, hu⟩
  rw [hr, hu]
  clear hr hu r u
  refine x_ifB_ne 19 rfl rfl (fun h13 => ?_) (fun hn => absurd (inr_t (by decide) (by decide)) hn)
  refine run_ok 3 (c' := (24, [(0, .ref 0), (1, .int (nI 1)), (2, .int (nI a)), (3, .int (nI 1)), (4, .int (nI b)), (5, .int (nI n))], [.int (nI 1), .ref 37], S)) rfl ?_
  refine x_aald (t := 40) rfl rfl (vp_in_nI (by decide) (by decide)) (by decide) ?_
  refine run_ok 4 (c' := (32, [(0, .ref 0), (1, .int (nI 1)), (2, .int (nI a)), (3, .int (nI 1)), (4, .int (nI b)), (5, .int (nI n)), (6, .ref 40)], [.int (nI 1), .ref 37], S)) rfl ?_
  refine x_aald (t := 40) rfl rfl (vp_in_nI (by decide) (by decide)) (by decide) ?_
  refine run_ok 3 (c' := (40, [(0, .ref 0), (1, .int (nI 1)), (2, .int (nI a)), (3, .int (nI 1)), (4, .int (nI b)), (5, .int (nI n)), (6, .ref 40), (7, .ref 40)], [.int (S.1 40 3)], S)) rfl ?_
  refine x_top (v' := nI lo) g3 ?_
  refine x_ifN_ne 51 rfl rfl (by omega) (fun hn => absurd hz1 hn) (fun h40 => ?_)
  refine run_ok 2 (c' := (48, [(0, .ref 0), (1, .int (nI 1)), (2, .int (nI a)), (3, .int (nI 1)), (4, .int (nI b)), (5, .int (nI n)), (6, .ref 40), (7, .ref 40)], [.int (S.1 40 3)], S)) rfl ?_
  refine x_top (v' := nI lo) g3 ?_
  refine x_ifN_eq 57 rfl rfl (by omega) (fun h48 => ?_) (fun hn => absurd hz2 hn)
  refine run_ok 2 (c' := (62, [(0, .ref 0), (1, .int (nI 1)), (2, .int (nI a)), (3, .int (nI 1)), (4, .int (nI b)), (5, .int (nI n)), (6, .ref 40), (7, .ref 40)], [.int (S.1 40 1)], S)) rfl ?_
  refine x_top (v' := nI fm) g1 ?_
  refine run_ok 2 (c' := (67, [(0, .ref 0), (1, .int (nI 1)), (2, .int (nI a)), (3, .int (nI 1)), (4, .int (nI b)), (5, .int (nI n)), (6, .ref 40), (7, .ref 40)], [.int (S.1 40 1), .int (nI fm)], S)) rfl ?_
  refine x_top (v' := nI fm) g1 ?_
  refine x_icmpN_eq 76 rfl rfl (by omega) (by omega) (fun h67 => ?_) (fun hn => absurd hst hn)
  refine run_ok 3 (c' := (81, [(0, .ref 0), (1, .int (nI 1)), (2, .int (nI a)), (3, .int (nI 1)), (4, .int (nI b)), (5, .int (nI n)), (6, .ref 40), (7, .ref 40)], [.int (nI n), .int (nI a), .ref 40], S)) rfl ?_
  refine x_callV [.int (nI a), .int (nI n)] rfl cv_H_hasItems.1 lk_6_265 cv_H_hasItems.2.1 cv_H_hasItems.2.2.1 rfl cv_H_hasItems.2.2.2.1 rfl rfl (Nat.le_of_ble_eq_true rfl) (by decide) cv_H_hasItems.2.2.2.2 (c_hasItems1 S lo fm sz hH (nI a) (nI n)) ?_
  rintro r x ⟨hr, hu⟩
  rw [hr, hu]
  clear hr hu r x
  refine x_ifB_eq 99 rfl rfl (fun hn => absurd hn (fun z => z (hasI_t ha hs60))) (fun h84 => ?_)
  refine run_ok 3 (c' := (93, [(0, .ref 0), (1, .int (nI 1)), (2, .int (nI a)), (3, .int (nI 1)), (4, .int (nI b)), (5, .int (nI n)), (6, .ref 40), (7, .ref 40)], [.int (nI n), .int (nI b), .ref 40], S)) rfl ?_
  refine x_callV [.int (nI b), .int (nI n)] rfl cv_H_hasItems.1 lk_6_265 cv_H_hasItems.2.1 cv_H_hasItems.2.2.1 rfl cv_H_hasItems.2.2.2.1 rfl rfl (Nat.le_of_ble_eq_true rfl) (by decide) cv_H_hasItems.2.2.2.2 (c_hasItems1 S lo fm sz hH (nI b) (nI n)) ?_
  rintro r x ⟨hr, hu⟩
  rw [hr, hu]
  clear hr hu r x
  refine x_ifB_ne 105 rfl rfl (fun h96 => ?_) (fun hn => absurd (hasI_t hb hs60) hn)
  refine run_ok 7 (c' := (120, [(0, .ref 0), (1, .int (nI 1)), (2, .int (nI a)), (3, .int (nI 1)), (4, .int (nI b)), (5, .int (nI n)), (6, .ref 40), (7, .ref 40)], [.int (nI n), .int (nI b), .ref 41, .int (nI a), .ref 41], S)) rfl ?_
  refine x_copyN rfl lk_6_268 rfl rfl (by decide) (by decide) (by omega) (by omega) (Nat.le_of_ble_eq_true rfl) (by decide) ?_
  refine run_ok 1 (c' := (124, [(0, .ref 0), (1, .int (nI 1)), (2, .int (nI a)), (3, .int (nI 1)), (4, .int (nI b)), (5, .int (nI n)), (6, .ref 40), (7, .ref 40)], [.int (nI 1)], (rwr S 41 (va_cpy (S.1 41) (S.1 41) a b n)))) rfl ?_
  exact x_ret (r := some (.int (nI 1))) rfl rfl trivial ⟨rfl, rfl⟩ rfl

set_option maxHeartbeats 2000000 in
theorem c_copy_null12 (S : ST) (lo fm sz : Nat) (hH : HR 40 lo fm sz S) (lo2 fm2 sz2 : Nat) (hH2 : HR 42 lo2 fm2 sz2 S) (a b n : Int32) (hnl : ¬ (lo = 0 ∧ lo2 = 0)) : EX me_N_copy 2 [.ref 0, .int (nI 1), .int a, .int (nI 2), .int b, .int n] S (fun r u => r = some (.int ((-10) - nI 1)) ∧ u = pt S 0 10 (nI 1)) := by
  refine EX.of mok_N_copy (Nat.le_of_ble_eq_true rfl) ?_
  obtain ⟨g3, g1, g2, hl1, hf2, hs60⟩ := id hH
  obtain ⟨p3, p1, p2, pl1, pf2, ps60⟩ := id hH2
  refine run_ok 2 (c' := (2, [(0, .ref 0), (1, .int (nI 1)), (2, .int a), (3, .int (nI 2)), (4, .int b), (5, .int n)], [.int (nI 4), .int (nI 1)], S)) rfl ?_
  refine x_callS [.int (nI 1), .int (nI 4)] rfl cs_N_isBelow.1 lk_6_73 cs_N_isBelow.2.1 rfl rfl (Nat.le_of_ble_eq_true rfl) (by decide) cs_N_isBelow.2.2 (c_isBelow S (nI 1) (nI 4)) ?_
  rintro r u ⟨hr, hu⟩
  rw [hr, hu]
  clear hr hu r u
  refine x_ifB_eq 16 rfl rfl (fun hn => absurd hn (fun z => z (inr_t (by decide) (by decide)))) (fun h5 => ?_)
  refine run_ok 2 (c' := (10, [(0, .ref 0), (1, .int (nI 1)), (2, .int a), (3, .int (nI 2)), (4, .int b), (5, .int n)], [.int (nI 4), .int (nI 2)], S)) rfl ?_
  refine x_callS [.int (nI 2), .int (nI 4)] rfl cs_N_isBelow.1 lk_6_73 cs_N_isBelow.2.1 rfl rfl (Nat.le_of_ble_eq_true rfl) (by decide) cs_N_isBelow.2.2 (c_isBelow S (nI 2) (nI 4)) ?_
  rintro r u ⟨hr, hu⟩
  rw [hr, hu]
  clear hr hu r u
  refine x_ifB_ne 19 rfl rfl (fun h13 => ?_) (fun hn => absurd (inr_t (by decide) (by decide)) hn)
  refine run_ok 3 (c' := (24, [(0, .ref 0), (1, .int (nI 1)), (2, .int a), (3, .int (nI 2)), (4, .int b), (5, .int n)], [.int (nI 1), .ref 37], S)) rfl ?_
  refine x_aald (t := 40) rfl rfl (vp_in_nI (by decide) (by decide)) (by decide) ?_
  refine run_ok 4 (c' := (32, [(0, .ref 0), (1, .int (nI 1)), (2, .int a), (3, .int (nI 2)), (4, .int b), (5, .int n), (6, .ref 40)], [.int (nI 2), .ref 37], S)) rfl ?_
  refine x_aald (t := 42) rfl rfl (vp_in_nI (by decide) (by decide)) (by decide) ?_
  refine run_ok 3 (c' := (40, [(0, .ref 0), (1, .int (nI 1)), (2, .int a), (3, .int (nI 2)), (4, .int b), (5, .int n), (6, .ref 40), (7, .ref 42)], [.int (S.1 40 3)], S)) rfl ?_
  refine x_top (v' := nI lo) g3 ?_
  refine x_ifN_ne 51 rfl rfl (by omega) (fun h40 => ?_) (fun h40 => ?_)
  · refine run_ok 2 (c' := (53, [(0, .ref 0), (1, .int (nI 1)), (2, .int a), (3, .int (nI 2)), (4, .int b), (5, .int n), (6, .ref 40), (7, .ref 42)], [.int (nI 1), .ref 0], S)) rfl ?_
    refine x_callV [.int (nI 1)] rfl cv_N_find.1 lk_6_134 cv_N_find.2.1 cv_N_find.2.2.1 rfl cv_N_find.2.2.2.1 rfl rfl (Nat.le_of_ble_eq_true rfl) (by decide) cv_N_find.2.2.2.2 (c_find S (1)) ?_
    rintro r x ⟨hr, hu⟩
    rw [hr, hu]
    clear hr hu r x
    exact x_ret (r := some (.int ((-10) - nI 1))) rfl rfl trivial ⟨rfl, rfl⟩ rfl
  · refine run_ok 2 (c' := (48, [(0, .ref 0), (1, .int (nI 1)), (2, .int a), (3, .int (nI 2)), (4, .int b), (5, .int n), (6, .ref 40), (7, .ref 42)], [.int (S.1 42 3)], S)) rfl ?_
    refine x_top (v' := nI lo2) p3 ?_
    refine x_ifN_eq 57 rfl rfl (by omega) (fun h48 => ?_) (fun h48 => ?_)
    · exact absurd hnl (by omega)
    · refine run_ok 2 (c' := (53, [(0, .ref 0), (1, .int (nI 1)), (2, .int a), (3, .int (nI 2)), (4, .int b), (5, .int n), (6, .ref 40), (7, .ref 42)], [.int (nI 1), .ref 0], S)) rfl ?_
      refine x_callV [.int (nI 1)] rfl cv_N_find.1 lk_6_134 cv_N_find.2.1 cv_N_find.2.2.1 rfl cv_N_find.2.2.2.1 rfl rfl (Nat.le_of_ble_eq_true rfl) (by decide) cv_N_find.2.2.2.2 (c_find S (1)) ?_
      rintro r x ⟨hr, hu⟩
      rw [hr, hu]
      clear hr hu r x
      exact x_ret (r := some (.int ((-10) - nI 1))) rfl rfl trivial ⟨rfl, rfl⟩ rfl

set_option maxHeartbeats 2000000 in
theorem c_copy_store12 (S : ST) (lo fm sz : Nat) (hH : HR 40 lo fm sz S) (lo2 fm2 sz2 : Nat) (hH2 : HR 42 lo2 fm2 sz2 S) (a b n : Int32) (hz1 : lo = 0) (hz2 : lo2 = 0) (hst : ¬ fm = fm2) : EX me_N_copy 2 [.ref 0, .int (nI 1), .int a, .int (nI 2), .int b, .int n] S (fun r u => r = some (.int ((-10) - nI 4)) ∧ u = pt S 0 10 (nI 4)) := by
  refine EX.of mok_N_copy (Nat.le_of_ble_eq_true rfl) ?_
  obtain ⟨g3, g1, g2, hl1, hf2, hs60⟩ := id hH
  obtain ⟨p3, p1, p2, pl1, pf2, ps60⟩ := id hH2
  refine run_ok 2 (c' := (2, [(0, .ref 0), (1, .int (nI 1)), (2, .int a), (3, .int (nI 2)), (4, .int b), (5, .int n)], [.int (nI 4), .int (nI 1)], S)) rfl ?_
  refine x_callS [.int (nI 1), .int (nI 4)] rfl cs_N_isBelow.1 lk_6_73 cs_N_isBelow.2.1 rfl rfl (Nat.le_of_ble_eq_true rfl) (by decide) cs_N_isBelow.2.2 (c_isBelow S (nI 1) (nI 4)) ?_
  rintro r u ⟨hr, hu⟩
  rw [hr, hu]
  clear hr hu r u
  refine x_ifB_eq 16 rfl rfl (fun hn => absurd hn (fun z => z (inr_t (by decide) (by decide)))) (fun h5 => ?_)
  refine run_ok 2 (c' := (10, [(0, .ref 0), (1, .int (nI 1)), (2, .int a), (3, .int (nI 2)), (4, .int b), (5, .int n)], [.int (nI 4), .int (nI 2)], S)) rfl ?_
  refine x_callS [.int (nI 2), .int (nI 4)] rfl cs_N_isBelow.1 lk_6_73 cs_N_isBelow.2.1 rfl rfl (Nat.le_of_ble_eq_true rfl) (by decide) cs_N_isBelow.2.2 (c_isBelow S (nI 2) (nI 4)) ?_
  rintro r u ⟨hr, hu⟩
  rw [hr, hu]
  clear hr hu r u
  refine x_ifB_ne 19 rfl rfl (fun h13 => ?_) (fun hn => absurd (inr_t (by decide) (by decide)) hn)
  refine run_ok 3 (c' := (24, [(0, .ref 0), (1, .int (nI 1)), (2, .int a), (3, .int (nI 2)), (4, .int b), (5, .int n)], [.int (nI 1), .ref 37], S)) rfl ?_
  refine x_aald (t := 40) rfl rfl (vp_in_nI (by decide) (by decide)) (by decide) ?_
  refine run_ok 4 (c' := (32, [(0, .ref 0), (1, .int (nI 1)), (2, .int a), (3, .int (nI 2)), (4, .int b), (5, .int n), (6, .ref 40)], [.int (nI 2), .ref 37], S)) rfl ?_
  refine x_aald (t := 42) rfl rfl (vp_in_nI (by decide) (by decide)) (by decide) ?_
  refine run_ok 3 (c' := (40, [(0, .ref 0), (1, .int (nI 1)), (2, .int a), (3, .int (nI 2)), (4, .int b), (5, .int n), (6, .ref 40), (7, .ref 42)], [.int (S.1 40 3)], S)) rfl ?_
  refine x_top (v' := nI lo) g3 ?_
  refine x_ifN_ne 51 rfl rfl (by omega) (fun hn => absurd hz1 hn) (fun h40 => ?_)
  refine run_ok 2 (c' := (48, [(0, .ref 0), (1, .int (nI 1)), (2, .int a), (3, .int (nI 2)), (4, .int b), (5, .int n), (6, .ref 40), (7, .ref 42)], [.int (S.1 42 3)], S)) rfl ?_
  refine x_top (v' := nI lo2) p3 ?_
  refine x_ifN_eq 57 rfl rfl (by omega) (fun h48 => ?_) (fun hn => absurd hz2 hn)
  refine run_ok 2 (c' := (62, [(0, .ref 0), (1, .int (nI 1)), (2, .int a), (3, .int (nI 2)), (4, .int b), (5, .int n), (6, .ref 40), (7, .ref 42)], [.int (S.1 40 1)], S)) rfl ?_
  refine x_top (v' := nI fm) g1 ?_
  refine run_ok 2 (c' := (67, [(0, .ref 0), (1, .int (nI 1)), (2, .int a), (3, .int (nI 2)), (4, .int b), (5, .int n), (6, .ref 40), (7, .ref 42)], [.int (S.1 42 1), .int (nI fm)], S)) rfl ?_
  refine x_top (v' := nI fm2) p1 ?_
  refine x_icmpN_eq 76 rfl rfl (by omega) (by omega) (fun hn => absurd hn hst) (fun h67 => ?_)
  refine run_ok 2 (c' := (72, [(0, .ref 0), (1, .int (nI 1)), (2, .int a), (3, .int (nI 2)), (4, .int b), (5, .int n), (6, .ref 40), (7, .ref 42)], [.int (nI 4), .ref 0], S)) rfl ?_
  refine x_callV [.int (nI 4)] rfl cv_N_find.1 lk_6_134 cv_N_find.2.1 cv_N_find.2.2.1 rfl cv_N_find.2.2.2.1 rfl rfl (Nat.le_of_ble_eq_true rfl) (by decide) cv_N_find.2.2.2.2 (c_find S (4)) ?_
  rintro r x ⟨hr, hu⟩
  rw [hr, hu]
  clear hr hu r x
  exact x_ret (r := some (.int ((-10) - nI 4))) rfl rfl trivial ⟨rfl, rfl⟩ rfl

set_option maxHeartbeats 2000000 in
theorem c_copy_index12 (S : ST) (lo fm sz : Nat) (hH : HR 40 lo fm sz S) (lo2 fm2 sz2 : Nat) (hH2 : HR 42 lo2 fm2 sz2 S) (a b n : Int32) (hz1 : lo = 0) (hz2 : lo2 = 0) (hst : fm = fm2) (hix : ¬ (hasI sz a n ∧ hasI sz2 b n)) : EX me_N_copy 2 [.ref 0, .int (nI 1), .int a, .int (nI 2), .int b, .int n] S (fun r u => r = some (.int ((-10) - nI 2)) ∧ u = pt S 0 10 (nI 2)) := by
  refine EX.of mok_N_copy (Nat.le_of_ble_eq_true rfl) ?_
  obtain ⟨g3, g1, g2, hl1, hf2, hs60⟩ := id hH
  obtain ⟨p3, p1, p2, pl1, pf2, ps60⟩ := id hH2
  refine run_ok 2 (c' := (2, [(0, .ref 0), (1, .int (nI 1)), (2, .int a), (3, .int (nI 2)), (4, .int b), (5, .int n)], [.int (nI 4), .int (nI 1)], S)) rfl ?_
  refine x_callS [.int (nI 1), .int (nI 4)] rfl cs_N_isBelow.1 lk_6_73 cs_N_isBelow.2.1 rfl rfl (Nat.le_of_ble_eq_true rfl) (by decide) cs_N_isBelow.2.2 (c_isBelow S (nI 1) (nI 4)) ?_
  rintro r u ⟨hr, hu⟩
  rw [hr, hu]
  clear hr hu r u
  refine x_ifB_eq 16 rfl rfl (fun hn => absurd hn (fun z => z (inr_t (by decide) (by decide)))) (fun h5 => ?_)
  refine run_ok 2 (c' := (10, [(0, .ref 0), (1, .int (nI 1)), (2, .int a), (3, .int (nI 2)), (4, .int b), (5, .int n)], [.int (nI 4), .int (nI 2)], S)) rfl ?_
  refine x_callS [.int (nI 2), .int (nI 4)] rfl cs_N_isBelow.1 lk_6_73 cs_N_isBelow.2.1 rfl rfl (Nat.le_of_ble_eq_true rfl) (by decide) cs_N_isBelow.2.2 (c_isBelow S (nI 2) (nI 4)) ?_
  rintro r u ⟨hr, hu⟩
  rw [hr, hu]
  clear hr hu r u
  refine x_ifB_ne 19 rfl rfl (fun h13 => ?_) (fun hn => absurd (inr_t (by decide) (by decide)) hn)
  refine run_ok 3 (c' := (24, [(0, .ref 0), (1, .int (nI 1)), (2, .int a), (3, .int (nI 2)), (4, .int b), (5, .int n)], [.int (nI 1), .ref 37], S)) rfl ?_
  refine x_aald (t := 40) rfl rfl (vp_in_nI (by decide) (by decide)) (by decide) ?_
  refine run_ok 4 (c' := (32, [(0, .ref 0), (1, .int (nI 1)), (2, .int a), (3, .int (nI 2)), (4, .int b), (5, .int n), (6, .ref 40)], [.int (nI 2), .ref 37], S)) rfl ?_
  refine x_aald (t := 42) rfl rfl (vp_in_nI (by decide) (by decide)) (by decide) ?_
  refine run_ok 3 (c' := (40, [(0, .ref 0), (1, .int (nI 1)), (2, .int a), (3, .int (nI 2)), (4, .int b), (5, .int n), (6, .ref 40), (7, .ref 42)], [.int (S.1 40 3)], S)) rfl ?_
  refine x_top (v' := nI lo) g3 ?_
  refine x_ifN_ne 51 rfl rfl (by omega) (fun hn => absurd hz1 hn) (fun h40 => ?_)
  refine run_ok 2 (c' := (48, [(0, .ref 0), (1, .int (nI 1)), (2, .int a), (3, .int (nI 2)), (4, .int b), (5, .int n), (6, .ref 40), (7, .ref 42)], [.int (S.1 42 3)], S)) rfl ?_
  refine x_top (v' := nI lo2) p3 ?_
  refine x_ifN_eq 57 rfl rfl (by omega) (fun h48 => ?_) (fun hn => absurd hz2 hn)
  refine run_ok 2 (c' := (62, [(0, .ref 0), (1, .int (nI 1)), (2, .int a), (3, .int (nI 2)), (4, .int b), (5, .int n), (6, .ref 40), (7, .ref 42)], [.int (S.1 40 1)], S)) rfl ?_
  refine x_top (v' := nI fm) g1 ?_
  refine run_ok 2 (c' := (67, [(0, .ref 0), (1, .int (nI 1)), (2, .int a), (3, .int (nI 2)), (4, .int b), (5, .int n), (6, .ref 40), (7, .ref 42)], [.int (S.1 42 1), .int (nI fm)], S)) rfl ?_
  refine x_top (v' := nI fm2) p1 ?_
  refine x_icmpN_eq 76 rfl rfl (by omega) (by omega) (fun h67 => ?_) (fun hn => absurd hst hn)
  refine run_ok 3 (c' := (81, [(0, .ref 0), (1, .int (nI 1)), (2, .int a), (3, .int (nI 2)), (4, .int b), (5, .int n), (6, .ref 40), (7, .ref 42)], [.int n, .int a, .ref 40], S)) rfl ?_
  refine x_callV [.int a, .int n] rfl cv_H_hasItems.1 lk_6_265 cv_H_hasItems.2.1 cv_H_hasItems.2.2.1 rfl cv_H_hasItems.2.2.2.1 rfl rfl (Nat.le_of_ble_eq_true rfl) (by decide) cv_H_hasItems.2.2.2.2 (c_hasItems1 S lo fm sz hH (a) (n)) ?_
  rintro r x ⟨hr, hu⟩
  rw [hr, hu]
  clear hr hu r x
  refine x_ifB_eq 99 rfl rfl (fun h84 => ?_) (fun h84 => ?_)
  · refine run_ok 2 (c' := (101, [(0, .ref 0), (1, .int (nI 1)), (2, .int a), (3, .int (nI 2)), (4, .int b), (5, .int n), (6, .ref 40), (7, .ref 42)], [.int (nI 2), .ref 0], S)) rfl ?_
    refine x_callV [.int (nI 2)] rfl cv_N_find.1 lk_6_134 cv_N_find.2.1 cv_N_find.2.2.1 rfl cv_N_find.2.2.2.1 rfl rfl (Nat.le_of_ble_eq_true rfl) (by decide) cv_N_find.2.2.2.2 (c_find S (2)) ?_
    rintro r x ⟨hr, hu⟩
    rw [hr, hu]
    clear hr hu r x
    exact x_ret (r := some (.int ((-10) - nI 2))) rfl rfl trivial ⟨rfl, rfl⟩ rfl
  · refine run_ok 3 (c' := (93, [(0, .ref 0), (1, .int (nI 1)), (2, .int a), (3, .int (nI 2)), (4, .int b), (5, .int n), (6, .ref 40), (7, .ref 42)], [.int n, .int b, .ref 42], S)) rfl ?_
    refine x_callV [.int b, .int n] rfl cv_H_hasItems.1 lk_6_265 cv_H_hasItems.2.1 cv_H_hasItems.2.2.1 rfl cv_H_hasItems.2.2.2.1 rfl rfl (Nat.le_of_ble_eq_true rfl) (by decide) cv_H_hasItems.2.2.2.2 (c_hasItems2 S lo2 fm2 sz2 hH2 (b) (n)) ?_
    rintro r x ⟨hr, hu⟩
    rw [hr, hu]
    clear hr hu r x
    refine x_ifB_ne 105 rfl rfl (fun h96 => ?_) (fun h96 => ?_)
    · exact absurd ⟨h84, h96⟩ hix
    · refine run_ok 2 (c' := (101, [(0, .ref 0), (1, .int (nI 1)), (2, .int a), (3, .int (nI 2)), (4, .int b), (5, .int n), (6, .ref 40), (7, .ref 42)], [.int (nI 2), .ref 0], S)) rfl ?_
      refine x_callV [.int (nI 2)] rfl cv_N_find.1 lk_6_134 cv_N_find.2.1 cv_N_find.2.2.1 rfl cv_N_find.2.2.2.1 rfl rfl (Nat.le_of_ble_eq_true rfl) (by decide) cv_N_find.2.2.2.2 (c_find S (2)) ?_
      rintro r x ⟨hr, hu⟩
      rw [hr, hu]
      clear hr hu r x
      exact x_ret (r := some (.int ((-10) - nI 2))) rfl rfl trivial ⟨rfl, rfl⟩ rfl

set_option maxHeartbeats 2000000 in
theorem c_copy_ok12 (S : ST) (lo fm sz : Nat) (hH : HR 40 lo fm sz S) (lo2 fm2 sz2 : Nat) (hH2 : HR 42 lo2 fm2 sz2 S) (a b n : Nat) (hz1 : lo = 0) (hz2 : lo2 = 0) (hst : fm = fm2) (ha : a + n ≤ sz) (hb : b + n ≤ sz2) : EX me_N_copy 2 [.ref 0, .int (nI 1), .int (nI a), .int (nI 2), .int (nI b), .int (nI n)] S (fun r u => r = some (.int 1) ∧ u = rwr S 43 (va_cpy (S.1 41) (S.1 43) a b n)) := by
  refine EX.of mok_N_copy (Nat.le_of_ble_eq_true rfl) ?_
  obtain ⟨g3, g1, g2, hl1, hf2, hs60⟩ := id hH
  obtain ⟨p3, p1, p2, pl1, pf2, ps60⟩ := id hH2
  refine run_ok 2 (c' := (2, [(0, .ref 0), (1, .int (nI 1)), (2, .int (nI a)), (3, .int (nI 2)), (4, .int (nI b)), (5, .int (nI n))], [.int (nI 4), .int (nI 1)], S)) rfl ?_
  refine x_callS [.int (nI 1), .int (nI 4)] rfl cs_N_isBelow.1 lk_6_73 cs_N_isBelow.2.1 rfl rfl (Nat.le_of_ble_eq_true rfl) (by decide) cs_N_isBelow.2.2 (c_isBelow S (nI 1) (nI 4)) ?_
  rintro r u ⟨hr, hu⟩
  rw [hr, hu]
  clear hr hu r u
  refine x_ifB_eq 16 rfl rfl (fun hn => absurd hn (fun z => z (inr_t (by decide) (by decide)))) (fun h5 => ?_)
  refine run_ok 2 (c' := (10, [(0, .ref 0), (1, .int (nI 1)), (2, .int (nI a)), (3, .int (nI 2)), (4, .int (nI b)), (5, .int (nI n))], [.int (nI 4), .int (nI 2)], S)) rfl ?_
  refine x_callS [.int (nI 2), .int (nI 4)] rfl cs_N_isBelow.1 lk_6_73 cs_N_isBelow.2.1 rfl rfl (Nat.le_of_ble_eq_true rfl) (by decide) cs_N_isBelow.2.2 (c_isBelow S (nI 2) (nI 4)) ?_
  rintro r u ⟨hr, hu⟩
  rw [hr, hu]
  clear hr hu r u
  refine x_ifB_ne 19 rfl rfl (fun h13 => ?_) (fun hn => absurd (inr_t (by decide) (by decide)) hn)
  refine run_ok 3 (c' := (24, [(0, .ref 0), (1, .int (nI 1)), (2, .int (nI a)), (3, .int (nI 2)), (4, .int (nI b)), (5, .int (nI n))], [.int (nI 1), .ref 37], S)) rfl ?_
  refine x_aald (t := 40) rfl rfl (vp_in_nI (by decide) (by decide)) (by decide) ?_
  refine run_ok 4 (c' := (32, [(0, .ref 0), (1, .int (nI 1)), (2, .int (nI a)), (3, .int (nI 2)), (4, .int (nI b)), (5, .int (nI n)), (6, .ref 40)], [.int (nI 2), .ref 37], S)) rfl ?_
  refine x_aald (t := 42) rfl rfl (vp_in_nI (by decide) (by decide)) (by decide) ?_
  refine run_ok 3 (c' := (40, [(0, .ref 0), (1, .int (nI 1)), (2, .int (nI a)), (3, .int (nI 2)), (4, .int (nI b)), (5, .int (nI n)), (6, .ref 40), (7, .ref 42)], [.int (S.1 40 3)], S)) rfl ?_
  refine x_top (v' := nI lo) g3 ?_
  refine x_ifN_ne 51 rfl rfl (by omega) (fun hn => absurd hz1 hn) (fun h40 => ?_)
  refine run_ok 2 (c' := (48, [(0, .ref 0), (1, .int (nI 1)), (2, .int (nI a)), (3, .int (nI 2)), (4, .int (nI b)), (5, .int (nI n)), (6, .ref 40), (7, .ref 42)], [.int (S.1 42 3)], S)) rfl ?_
  refine x_top (v' := nI lo2) p3 ?_
  refine x_ifN_eq 57 rfl rfl (by omega) (fun h48 => ?_) (fun hn => absurd hz2 hn)
  refine run_ok 2 (c' := (62, [(0, .ref 0), (1, .int (nI 1)), (2, .int (nI a)), (3, .int (nI 2)), (4, .int (nI b)), (5, .int (nI n)), (6, .ref 40), (7, .ref 42)], [.int (S.1 40 1)], S)) rfl ?_
  refine x_top (v' := nI fm) g1 ?_
  refine run_ok 2 (c' := (67, [(0, .ref 0), (1, .int (nI 1)), (2, .int (nI a)), (3, .int (nI 2)), (4, .int (nI b)), (5, .int (nI n)), (6, .ref 40), (7, .ref 42)], [.int (S.1 42 1), .int (nI fm)], S)) rfl ?_
  refine x_top (v' := nI fm2) p1 ?_
  refine x_icmpN_eq 76 rfl rfl (by omega) (by omega) (fun h67 => ?_) (fun hn => absurd hst hn)
  refine run_ok 3 (c' := (81, [(0, .ref 0), (1, .int (nI 1)), (2, .int (nI a)), (3, .int (nI 2)), (4, .int (nI b)), (5, .int (nI n)), (6, .ref 40), (7, .ref 42)], [.int (nI n), .int (nI a), .ref 40], S)) rfl ?_
  refine x_callV [.int (nI a), .int (nI n)] rfl cv_H_hasItems.1 lk_6_265 cv_H_hasItems.2.1 cv_H_hasItems.2.2.1 rfl cv_H_hasItems.2.2.2.1 rfl rfl (Nat.le_of_ble_eq_true rfl) (by decide) cv_H_hasItems.2.2.2.2 (c_hasItems1 S lo fm sz hH (nI a) (nI n)) ?_
  rintro r x ⟨hr, hu⟩
  rw [hr, hu]
  clear hr hu r x
  refine x_ifB_eq 99 rfl rfl (fun hn => absurd hn (fun z => z (hasI_t ha hs60))) (fun h84 => ?_)
  refine run_ok 3 (c' := (93, [(0, .ref 0), (1, .int (nI 1)), (2, .int (nI a)), (3, .int (nI 2)), (4, .int (nI b)), (5, .int (nI n)), (6, .ref 40), (7, .ref 42)], [.int (nI n), .int (nI b), .ref 42], S)) rfl ?_
  refine x_callV [.int (nI b), .int (nI n)] rfl cv_H_hasItems.1 lk_6_265 cv_H_hasItems.2.1 cv_H_hasItems.2.2.1 rfl cv_H_hasItems.2.2.2.1 rfl rfl (Nat.le_of_ble_eq_true rfl) (by decide) cv_H_hasItems.2.2.2.2 (c_hasItems2 S lo2 fm2 sz2 hH2 (nI b) (nI n)) ?_
  rintro r x ⟨hr, hu⟩
  rw [hr, hu]
  clear hr hu r x
  refine x_ifB_ne 105 rfl rfl (fun h96 => ?_) (fun hn => absurd (hasI_t hb ps60) hn)
  refine run_ok 7 (c' := (120, [(0, .ref 0), (1, .int (nI 1)), (2, .int (nI a)), (3, .int (nI 2)), (4, .int (nI b)), (5, .int (nI n)), (6, .ref 40), (7, .ref 42)], [.int (nI n), .int (nI b), .ref 43, .int (nI a), .ref 41], S)) rfl ?_
  refine x_copyN rfl lk_6_268 rfl rfl (by decide) (by decide) (by omega) (by omega) (Nat.le_of_ble_eq_true rfl) (by decide) ?_
  refine run_ok 1 (c' := (124, [(0, .ref 0), (1, .int (nI 1)), (2, .int (nI a)), (3, .int (nI 2)), (4, .int (nI b)), (5, .int (nI n)), (6, .ref 40), (7, .ref 42)], [.int (nI 1)], (rwr S 43 (va_cpy (S.1 41) (S.1 43) a b n)))) rfl ?_
  exact x_ret (r := some (.int (nI 1))) rfl rfl trivial ⟨rfl, rfl⟩ rfl

set_option maxHeartbeats 2000000 in
theorem c_copy_null13 (S : ST) (lo fm sz : Nat) (hH : HR 40 lo fm sz S) (lo2 fm2 sz2 : Nat) (hH2 : HR 44 lo2 fm2 sz2 S) (a b n : Int32) (hnl : ¬ (lo = 0 ∧ lo2 = 0)) : EX me_N_copy 2 [.ref 0, .int (nI 1), .int a, .int (nI 3), .int b, .int n] S (fun r u => r = some (.int ((-10) - nI 1)) ∧ u = pt S 0 10 (nI 1)) := by
  refine EX.of mok_N_copy (Nat.le_of_ble_eq_true rfl) ?_
  obtain ⟨g3, g1, g2, hl1, hf2, hs60⟩ := id hH
  obtain ⟨p3, p1, p2, pl1, pf2, ps60⟩ := id hH2
  refine run_ok 2 (c' := (2, [(0, .ref 0), (1, .int (nI 1)), (2, .int a), (3, .int (nI 3)), (4, .int b), (5, .int n)], [.int (nI 4), .int (nI 1)], S)) rfl ?_
  refine x_callS [.int (nI 1), .int (nI 4)] rfl cs_N_isBelow.1 lk_6_73 cs_N_isBelow.2.1 rfl rfl (Nat.le_of_ble_eq_true rfl) (by decide) cs_N_isBelow.2.2 (c_isBelow S (nI 1) (nI 4)) ?_
  rintro r u ⟨hr, hu⟩
  rw [hr, hu]
  clear hr hu r u
  refine x_ifB_eq 16 rfl rfl (fun hn => absurd hn (fun z => z (inr_t (by decide) (by decide)))) (fun h5 => ?_)
  refine run_ok 2 (c' := (10, [(0, .ref 0), (1, .int (nI 1)), (2, .int a), (3, .int (nI 3)), (4, .int b), (5, .int n)], [.int (nI 4), .int (nI 3)], S)) rfl ?_
  refine x_callS [.int (nI 3), .int (nI 4)] rfl cs_N_isBelow.1 lk_6_73 cs_N_isBelow.2.1 rfl rfl (Nat.le_of_ble_eq_true rfl) (by decide) cs_N_isBelow.2.2 (c_isBelow S (nI 3) (nI 4)) ?_
  rintro r u ⟨hr, hu⟩
  rw [hr, hu]
  clear hr hu r u
  refine x_ifB_ne 19 rfl rfl (fun h13 => ?_) (fun hn => absurd (inr_t (by decide) (by decide)) hn)
  refine run_ok 3 (c' := (24, [(0, .ref 0), (1, .int (nI 1)), (2, .int a), (3, .int (nI 3)), (4, .int b), (5, .int n)], [.int (nI 1), .ref 37], S)) rfl ?_
  refine x_aald (t := 40) rfl rfl (vp_in_nI (by decide) (by decide)) (by decide) ?_
  refine run_ok 4 (c' := (32, [(0, .ref 0), (1, .int (nI 1)), (2, .int a), (3, .int (nI 3)), (4, .int b), (5, .int n), (6, .ref 40)], [.int (nI 3), .ref 37], S)) rfl ?_
  refine x_aald (t := 44) rfl rfl (vp_in_nI (by decide) (by decide)) (by decide) ?_
  refine run_ok 3 (c' := (40, [(0, .ref 0), (1, .int (nI 1)), (2, .int a), (3, .int (nI 3)), (4, .int b), (5, .int n), (6, .ref 40), (7, .ref 44)], [.int (S.1 40 3)], S)) rfl ?_
  refine x_top (v' := nI lo) g3 ?_
  refine x_ifN_ne 51 rfl rfl (by omega) (fun h40 => ?_) (fun h40 => ?_)
  · refine run_ok 2 (c' := (53, [(0, .ref 0), (1, .int (nI 1)), (2, .int a), (3, .int (nI 3)), (4, .int b), (5, .int n), (6, .ref 40), (7, .ref 44)], [.int (nI 1), .ref 0], S)) rfl ?_
    refine x_callV [.int (nI 1)] rfl cv_N_find.1 lk_6_134 cv_N_find.2.1 cv_N_find.2.2.1 rfl cv_N_find.2.2.2.1 rfl rfl (Nat.le_of_ble_eq_true rfl) (by decide) cv_N_find.2.2.2.2 (c_find S (1)) ?_
    rintro r x ⟨hr, hu⟩
    rw [hr, hu]
    clear hr hu r x
    exact x_ret (r := some (.int ((-10) - nI 1))) rfl rfl trivial ⟨rfl, rfl⟩ rfl
  · refine run_ok 2 (c' := (48, [(0, .ref 0), (1, .int (nI 1)), (2, .int a), (3, .int (nI 3)), (4, .int b), (5, .int n), (6, .ref 40), (7, .ref 44)], [.int (S.1 44 3)], S)) rfl ?_
    refine x_top (v' := nI lo2) p3 ?_
    refine x_ifN_eq 57 rfl rfl (by omega) (fun h48 => ?_) (fun h48 => ?_)
    · exact absurd hnl (by omega)
    · refine run_ok 2 (c' := (53, [(0, .ref 0), (1, .int (nI 1)), (2, .int a), (3, .int (nI 3)), (4, .int b), (5, .int n), (6, .ref 40), (7, .ref 44)], [.int (nI 1), .ref 0], S)) rfl ?_
      refine x_callV [.int (nI 1)] rfl cv_N_find.1 lk_6_134 cv_N_find.2.1 cv_N_find.2.2.1 rfl cv_N_find.2.2.2.1 rfl rfl (Nat.le_of_ble_eq_true rfl) (by decide) cv_N_find.2.2.2.2 (c_find S (1)) ?_
      rintro r x ⟨hr, hu⟩
      rw [hr, hu]
      clear hr hu r x
      exact x_ret (r := some (.int ((-10) - nI 1))) rfl rfl trivial ⟨rfl, rfl⟩ rfl

set_option maxHeartbeats 2000000 in
theorem c_copy_store13 (S : ST) (lo fm sz : Nat) (hH : HR 40 lo fm sz S) (lo2 fm2 sz2 : Nat) (hH2 : HR 44 lo2 fm2 sz2 S) (a b n : Int32) (hz1 : lo = 0) (hz2 : lo2 = 0) (hst : ¬ fm = fm2) : EX me_N_copy 2 [.ref 0, .int (nI 1), .int a, .int (nI 3), .int b, .int n] S (fun r u => r = some (.int ((-10) - nI 4)) ∧ u = pt S 0 10 (nI 4)) := by
  refine EX.of mok_N_copy (Nat.le_of_ble_eq_true rfl) ?_
  obtain ⟨g3, g1, g2, hl1, hf2, hs60⟩ := id hH
  obtain ⟨p3, p1, p2, pl1, pf2, ps60⟩ := id hH2
  refine run_ok 2 (c' := (2, [(0, .ref 0), (1, .int (nI 1)), (2, .int a), (3, .int (nI 3)), (4, .int b), (5, .int n)], [.int (nI 4), .int (nI 1)], S)) rfl ?_
  refine x_callS [.int (nI 1), .int (nI 4)] rfl cs_N_isBelow.1 lk_6_73 cs_N_isBelow.2.1 rfl rfl (Nat.le_of_ble_eq_true rfl) (by decide) cs_N_isBelow.2.2 (c_isBelow S (nI 1) (nI 4)) ?_
  rintro r u ⟨hr, hu⟩
  rw [hr, hu]
  clear hr hu r u
  refine x_ifB_eq 16 rfl rfl (fun hn => absurd hn (fun z => z (inr_t (by decide) (by decide)))) (fun h5 => ?_)
  refine run_ok 2 (c' := (10, [(0, .ref 0), (1, .int (nI 1)), (2, .int a), (3, .int (nI 3)), (4, .int b), (5, .int n)], [.int (nI 4), .int (nI 3)], S)) rfl ?_
  refine x_callS [.int (nI 3), .int (nI 4)] rfl cs_N_isBelow.1 lk_6_73 cs_N_isBelow.2.1 rfl rfl (Nat.le_of_ble_eq_true rfl) (by decide) cs_N_isBelow.2.2 (c_isBelow S (nI 3) (nI 4)) ?_
  rintro r u ⟨hr, hu⟩
  rw [hr, hu]
  clear hr hu r u
  refine x_ifB_ne 19 rfl rfl (fun h13 => ?_) (fun hn => absurd (inr_t (by decide) (by decide)) hn)
  refine run_ok 3 (c' := (24, [(0, .ref 0), (1, .int (nI 1)), (2, .int a), (3, .int (nI 3)), (4, .int b), (5, .int n)], [.int (nI 1), .ref 37], S)) rfl ?_
  refine x_aald (t := 40) rfl rfl (vp_in_nI (by decide) (by decide)) (by decide) ?_
  refine run_ok 4 (c' := (32, [(0, .ref 0), (1, .int (nI 1)), (2, .int a), (3, .int (nI 3)), (4, .int b), (5, .int n), (6, .ref 40)], [.int (nI 3), .ref 37], S)) rfl ?_
  refine x_aald (t := 44) rfl rfl (vp_in_nI (by decide) (by decide)) (by decide) ?_
  refine run_ok 3 (c' := (40, [(0, .ref 0), (1, .int (nI 1)), (2, .int a), (3, .int (nI 3)), (4, .int b), (5, .int n), (6, .ref 40), (7, .ref 44)], [.int (S.1 40 3)], S)) rfl ?_
  refine x_top (v' := nI lo) g3 ?_
  refine x_ifN_ne 51 rfl rfl (by omega) (fun hn => absurd hz1 hn) (fun h40 => ?_)
  refine run_ok 2 (c' := (48, [(0, .ref 0), (1, .int (nI 1)), (2, .int a), (3, .int (nI 3)), (4, .int b), (5, .int n), (6, .ref 40), (7, .ref 44)], [.int (S.1 44 3)], S)) rfl ?_
  refine x_top (v' := nI lo2) p3 ?_
  refine x_ifN_eq 57 rfl rfl (by omega) (fun h48 => ?_) (fun hn => absurd hz2 hn)
  refine run_ok 2 (c' := (62, [(0, .ref 0), (1, .int (nI 1)), (2, .int a), (3, .int (nI 3)), (4, .int b), (5, .int n), (6, .ref 40), (7, .ref 44)], [.int (S.1 40 1)], S)) rfl ?_
  refine x_top (v' := nI fm) g1 ?_
  refine run_ok 2 (c' := (67, [(0, .ref 0), (1, .int (nI 1)), (2, .int a), (3, .int (nI 3)), (4, .int b), (5, .int n), (6, .ref 40), (7, .ref 44)], [.int (S.1 44 1), .int (nI fm)], S)) rfl ?_
  refine x_top (v' := nI fm2) p1 ?_
  refine x_icmpN_eq 76 rfl rfl (by omega) (by omega) (fun hn => absurd hn hst) (fun h67 => ?_)
  refine run_ok 2 (c' := (72, [(0, .ref 0), (1, .int (nI 1)), (2, .int a), (3, .int (nI 3)), (4, .int b), (5, .int n), (6, .ref 40), (7, .ref 44)], [.int (nI 4), .ref 0], S)) rfl ?_
  refine x_callV [.int (nI 4)] rfl cv_N_find.1 lk_6_134 cv_N_find.2.1 cv_N_find.2.2.1 rfl cv_N_find.2.2.2.1 rfl rfl (Nat.le_of_ble_eq_true rfl) (by decide) cv_N_find.2.2.2.2 (c_find S (4)) ?_
  rintro r x ⟨hr, hu⟩
  rw [hr, hu]
  clear hr hu r x
  exact x_ret (r := some (.int ((-10) - nI 4))) rfl rfl trivial ⟨rfl, rfl⟩ rfl

set_option maxHeartbeats 2000000 in
theorem c_copy_index13 (S : ST) (lo fm sz : Nat) (hH : HR 40 lo fm sz S) (lo2 fm2 sz2 : Nat) (hH2 : HR 44 lo2 fm2 sz2 S) (a b n : Int32) (hz1 : lo = 0) (hz2 : lo2 = 0) (hst : fm = fm2) (hix : ¬ (hasI sz a n ∧ hasI sz2 b n)) : EX me_N_copy 2 [.ref 0, .int (nI 1), .int a, .int (nI 3), .int b, .int n] S (fun r u => r = some (.int ((-10) - nI 2)) ∧ u = pt S 0 10 (nI 2)) := by
  refine EX.of mok_N_copy (Nat.le_of_ble_eq_true rfl) ?_
  obtain ⟨g3, g1, g2, hl1, hf2, hs60⟩ := id hH
  obtain ⟨p3, p1, p2, pl1, pf2, ps60⟩ := id hH2
  refine run_ok 2 (c' := (2, [(0, .ref 0), (1, .int (nI 1)), (2, .int a), (3, .int (nI 3)), (4, .int b), (5, .int n)], [.int (nI 4), .int (nI 1)], S)) rfl ?_
  refine x_callS [.int (nI 1), .int (nI 4)] rfl cs_N_isBelow.1 lk_6_73 cs_N_isBelow.2.1 rfl rfl (Nat.le_of_ble_eq_true rfl) (by decide) cs_N_isBelow.2.2 (c_isBelow S (nI 1) (nI 4)) ?_
  rintro r u ⟨hr, hu⟩
  rw [hr, hu]
  clear hr hu r u
  refine x_ifB_eq 16 rfl rfl (fun hn => absurd hn (fun z => z (inr_t (by decide) (by decide)))) (fun h5 => ?_)
  refine run_ok 2 (c' := (10, [(0, .ref 0), (1, .int (nI 1)), (2, .int a), (3, .int (nI 3)), (4, .int b), (5, .int n)], [.int (nI 4), .int (nI 3)], S)) rfl ?_
  refine x_callS [.int (nI 3), .int (nI 4)] rfl cs_N_isBelow.1 lk_6_73 cs_N_isBelow.2.1 rfl rfl (Nat.le_of_ble_eq_true rfl) (by decide) cs_N_isBelow.2.2 (c_isBelow S (nI 3) (nI 4)) ?_
  rintro r u ⟨hr, hu⟩
  rw [hr, hu]
  clear hr hu r u
  refine x_ifB_ne 19 rfl rfl (fun h13 => ?_) (fun hn => absurd (inr_t (by decide) (by decide)) hn)
  refine run_ok 3 (c' := (24, [(0, .ref 0), (1, .int (nI 1)), (2, .int a), (3, .int (nI 3)), (4, .int b), (5, .int n)], [.int (nI 1), .ref 37], S)) rfl ?_
  refine x_aald (t := 40) rfl rfl (vp_in_nI (by decide) (by decide)) (by decide) ?_
  refine run_ok 4 (c' := (32, [(0, .ref 0), (1, .int (nI 1)), (2, .int a), (3, .int (nI 3)), (4, .int b), (5, .int n), (6, .ref 40)], [.int (nI 3), .ref 37], S)) rfl ?_
  refine x_aald (t := 44) rfl rfl (vp_in_nI (by decide) (by decide)) (by decide) ?_
  refine run_ok 3 (c' := (40, [(0, .ref 0), (1, .int (nI 1)), (2, .int a), (3, .int (nI 3)), (4, .int b), (5, .int n), (6, .ref 40), (7, .ref 44)], [.int (S.1 40 3)], S)) rfl ?_
  refine x_top (v' := nI lo) g3 ?_
  refine x_ifN_ne 51 rfl rfl (by omega) (fun hn => absurd hz1 hn) (fun h40 => ?_)
  refine run_ok 2 (c' := (48, [(0, .ref 0), (1, .int (nI 1)), (2, .int a), (3, .int (nI 3)), (4, .int b), (5, .int n), (6, .ref 40), (7, .ref 44)], [.int (S.1 44 3)], S)) rfl ?_
  refine x_top (v' := nI lo2) p3 ?_
  refine x_ifN_eq 57 rfl rfl (by omega) (fun h48 => ?_) (fun hn => absurd hz2 hn)
  refine run_ok 2 (c' := (62, [(0, .ref 0), (1, .int (nI 1)), (2, .int a), (3, .int (nI 3)), (4, .int b), (5, .int n), (6, .ref 40), (7, .ref 44)], [.int (S.1 40 1)], S)) rfl ?_
  refine x_top (v' := nI fm) g1 ?_
  refine run_ok 2 (c' := (67, [(0, .ref 0), (1, .int (nI 1)), (2, .int a), (3, .int (nI 3)), (4, .int b), (5, .int n), (6, .ref 40), (7, .ref 44)], [.int (S.1 44 1), .int (nI fm)], S)) rfl ?_
  refine x_top (v' := nI fm2) p1 ?_
  refine x_icmpN_eq 76 rfl rfl (by omega) (by omega) (fun h67 => ?_) (fun hn => absurd hst hn)
  refine run_ok 3 (c' := (81, [(0, .ref 0), (1, .int (nI 1)), (2, .int a), (3, .int (nI 3)), (4, .int b), (5, .int n), (6, .ref 40), (7, .ref 44)], [.int n, .int a, .ref 40], S)) rfl ?_
  refine x_callV [.int a, .int n] rfl cv_H_hasItems.1 lk_6_265 cv_H_hasItems.2.1 cv_H_hasItems.2.2.1 rfl cv_H_hasItems.2.2.2.1 rfl rfl (Nat.le_of_ble_eq_true rfl) (by decide) cv_H_hasItems.2.2.2.2 (c_hasItems1 S lo fm sz hH (a) (n)) ?_
  rintro r x ⟨hr, hu⟩
  rw [hr, hu]
  clear hr hu r x
  refine x_ifB_eq 99 rfl rfl (fun h84 => ?_) (fun h84 => ?_)
  · refine run_ok 2 (c' := (101, [(0, .ref 0), (1, .int (nI 1)), (2, .int a), (3, .int (nI 3)), (4, .int b), (5, .int n), (6, .ref 40), (7, .ref 44)], [.int (nI 2), .ref 0], S)) rfl ?_
    refine x_callV [.int (nI 2)] rfl cv_N_find.1 lk_6_134 cv_N_find.2.1 cv_N_find.2.2.1 rfl cv_N_find.2.2.2.1 rfl rfl (Nat.le_of_ble_eq_true rfl) (by decide) cv_N_find.2.2.2.2 (c_find S (2)) ?_
    rintro r x ⟨hr, hu⟩
    rw [hr, hu]
    clear hr hu r x
    exact x_ret (r := some (.int ((-10) - nI 2))) rfl rfl trivial ⟨rfl, rfl⟩ rfl
  · refine run_ok 3 (c' := (93, [(0, .ref 0), (1, .int (nI 1)), (2, .int a), (3, .int (nI 3)), (4, .int b), (5, .int n), (6, .ref 40), (7, .ref 44)], [.int n, .int b, .ref 44], S)) rfl ?_
    refine x_callV [.int b, .int n] rfl cv_H_hasItems.1 lk_6_265 cv_H_hasItems.2.1 cv_H_hasItems.2.2.1 rfl cv_H_hasItems.2.2.2.1 rfl rfl (Nat.le_of_ble_eq_true rfl) (by decide) cv_H_hasItems.2.2.2.2 (c_hasItems3 S lo2 fm2 sz2 hH2 (b) (n)) ?_
    rintro r x ⟨hr, hu⟩
    rw [hr, hu]
    clear hr hu r x
    refine x_ifB_ne 105 rfl rfl (fun h96 => ?_) (fun h96 => ?_)
    · exact absurd ⟨h84, h96⟩ hix
    · refine run_ok 2 (c' := (101, [(0, .ref 0), (1, .int (nI 1)), (2, .int a), (3, .int (nI 3)), (4, .int b), (5, .int n), (6, .ref 40), (7, .ref 44)], [.int (nI 2), .ref 0], S)) rfl ?_
      refine x_callV [.int (nI 2)] rfl cv_N_find.1 lk_6_134 cv_N_find.2.1 cv_N_find.2.2.1 rfl cv_N_find.2.2.2.1 rfl rfl (Nat.le_of_ble_eq_true rfl) (by decide) cv_N_find.2.2.2.2 (c_find S (2)) ?_
      rintro r x ⟨hr, hu⟩
      rw [hr, hu]
      clear hr hu r x
      exact x_ret (r := some (.int ((-10) - nI 2))) rfl rfl trivial ⟨rfl, rfl⟩ rfl

set_option maxHeartbeats 2000000 in
theorem c_copy_ok13 (S : ST) (lo fm sz : Nat) (hH : HR 40 lo fm sz S) (lo2 fm2 sz2 : Nat) (hH2 : HR 44 lo2 fm2 sz2 S) (a b n : Nat) (hz1 : lo = 0) (hz2 : lo2 = 0) (hst : fm = fm2) (ha : a + n ≤ sz) (hb : b + n ≤ sz2) : EX me_N_copy 2 [.ref 0, .int (nI 1), .int (nI a), .int (nI 3), .int (nI b), .int (nI n)] S (fun r u => r = some (.int 1) ∧ u = rwr S 45 (va_cpy (S.1 41) (S.1 45) a b n)) := by
  refine EX.of mok_N_copy (Nat.le_of_ble_eq_true rfl) ?_
  obtain ⟨g3, g1, g2, hl1, hf2, hs60⟩ := id hH
  obtain ⟨p3, p1, p2, pl1, pf2, ps60⟩ := id hH2
  refine run_ok 2 (c' := (2, [(0, .ref 0), (1, .int (nI 1)), (2, .int (nI a)), (3, .int (nI 3)), (4, .int (nI b)), (5, .int (nI n))], [.int (nI 4), .int (nI 1)], S)) rfl ?_
  refine x_callS [.int (nI 1), .int (nI 4)] rfl cs_N_isBelow.1 lk_6_73 cs_N_isBelow.2.1 rfl rfl (Nat.le_of_ble_eq_true rfl) (by decide) cs_N_isBelow.2.2 (c_isBelow S (nI 1) (nI 4)) ?_
  rintro r u ⟨hr, hu⟩
  rw [hr, hu]
  clear hr hu r u
  refine x_ifB_eq 16 rfl rfl (fun hn => absurd hn (fun z => z (inr_t (by decide) (by decide)))) (fun h5 => ?_)
  refine run_ok 2 (c' := (10, [(0, .ref 0), (1, .int (nI 1)), (2, .int (nI a)), (3, .int (nI 3)), (4, .int (nI b)), (5, .int (nI n))], [.int (nI 4), .int (nI 3)], S)) rfl ?_
  refine x_callS [.int (nI 3), .int (nI 4)] rfl cs_N_isBelow.1 lk_6_73 cs_N_isBelow.2.1 rfl rfl (Nat.le_of_ble_eq_true rfl) (by decide) cs_N_isBelow.2.2 (c_isBelow S (nI 3) (nI 4)) ?_
  rintro r u ⟨hr, hu⟩
  rw [hr, hu]
  clear hr hu r u
  refine x_ifB_ne 19 rfl rfl (fun h13 => ?_) (fun hn => absurd (inr_t (by decide) (by decide)) hn)
  refine run_ok 3 (c' := (24, [(0, .ref 0), (1, .int (nI 1)), (2, .int (nI a)), (3, .int (nI 3)), (4, .int (nI b)), (5, .int (nI n))], [.int (nI 1), .ref 37], S)) rfl ?_
  refine x_aald (t := 40) rfl rfl (vp_in_nI (by decide) (by decide)) (by decide) ?_
  refine run_ok 4 (c' := (32, [(0, .ref 0), (1, .int (nI 1)), (2, .int (nI a)), (3, .int (nI 3)), (4, .int (nI b)), (5, .int (nI n)), (6, .ref 40)], [.int (nI 3), .ref 37], S)) rfl ?_
  refine x_aald (t := 44) rfl rfl (vp_in_nI (by decide) (by decide)) (by decide) ?_
  refine run_ok 3 (c' := (40, [(0, .ref 0), (1, .int (nI 1)), (2, .int (nI a)), (3, .int (nI 3)), (4, .int (nI b)), (5, .int (nI n)), (6, .ref 40), (7, .ref 44)], [.int (S.1 40 3)], S)) rfl ?_
  refine x_top (v' := nI lo) g3 ?_
  refine x_ifN_ne 51 rfl rfl (by omega) (fun hn => absurd hz1 hn) (fun h40 => ?_)
  refine run_ok 2 (c' := (48, [(0, .ref 0), (1, .int (nI 1)), (2, .int (nI a)), (3, .int (nI 3)), (4, .int (nI b)), (5, .int (nI n)), (6, .ref 40), (7, .ref 44)], [.int (S.1 44 3)], S)) rfl ?_
  refine x_top (v' := nI lo2) p3 ?_
  refine x_ifN_eq 57 rfl rfl (by omega) (fun h48 => ?_) (fun hn => absurd hz2 hn)
  refine run_ok 2 (c' := (62, [(0, .ref 0), (1, .int (nI 1)), (2, .int (nI a)), (3, .int (nI 3)), (4, .int (nI b)), (5, .int (nI n)), (6, .ref 40), (7, .ref 44)], [.int (S.1 40 1)], S)) rfl ?_
  refine x_top (v' := nI fm) g1 ?_
  refine run_ok 2 (c' := (67, [(0, .ref 0), (1, .int (nI 1)), (2, .int (nI a)), (3, .int (nI 3)), (4, .int (nI b)), (5, .int (nI n)), (6, .ref 40), (7, .ref 44)], [.int (S.1 44 1), .int (nI fm)], S)) rfl ?_
  refine x_top (v' := nI fm2) p1 ?_
  refine x_icmpN_eq 76 rfl rfl (by omega) (by omega) (fun h67 => ?_) (fun hn => absurd hst hn)
  refine run_ok 3 (c' := (81, [(0, .ref 0), (1, .int (nI 1)), (2, .int (nI a)), (3, .int (nI 3)), (4, .int (nI b)), (5, .int (nI n)), (6, .ref 40), (7, .ref 44)], [.int (nI n), .int (nI a), .ref 40], S)) rfl ?_
  refine x_callV [.int (nI a), .int (nI n)] rfl cv_H_hasItems.1 lk_6_265 cv_H_hasItems.2.1 cv_H_hasItems.2.2.1 rfl cv_H_hasItems.2.2.2.1 rfl rfl (Nat.le_of_ble_eq_true rfl) (by decide) cv_H_hasItems.2.2.2.2 (c_hasItems1 S lo fm sz hH (nI a) (nI n)) ?_
  rintro r x ⟨hr, hu⟩
  rw [hr, hu]
  clear hr hu r x
  refine x_ifB_eq 99 rfl rfl (fun hn => absurd hn (fun z => z (hasI_t ha hs60))) (fun h84 => ?_)
  refine run_ok 3 (c' := (93, [(0, .ref 0), (1, .int (nI 1)), (2, .int (nI a)), (3, .int (nI 3)), (4, .int (nI b)), (5, .int (nI n)), (6, .ref 40), (7, .ref 44)], [.int (nI n), .int (nI b), .ref 44], S)) rfl ?_
  refine x_callV [.int (nI b), .int (nI n)] rfl cv_H_hasItems.1 lk_6_265 cv_H_hasItems.2.1 cv_H_hasItems.2.2.1 rfl cv_H_hasItems.2.2.2.1 rfl rfl (Nat.le_of_ble_eq_true rfl) (by decide) cv_H_hasItems.2.2.2.2 (c_hasItems3 S lo2 fm2 sz2 hH2 (nI b) (nI n)) ?_
  rintro r x ⟨hr, hu⟩
  rw [hr, hu]
  clear hr hu r x
  refine x_ifB_ne 105 rfl rfl (fun h96 => ?_) (fun hn => absurd (hasI_t hb ps60) hn)
  refine run_ok 7 (c' := (120, [(0, .ref 0), (1, .int (nI 1)), (2, .int (nI a)), (3, .int (nI 3)), (4, .int (nI b)), (5, .int (nI n)), (6, .ref 40), (7, .ref 44)], [.int (nI n), .int (nI b), .ref 45, .int (nI a), .ref 41], S)) rfl ?_
  refine x_copyN rfl lk_6_268 rfl rfl (by decide) (by decide) (by omega) (by omega) (Nat.le_of_ble_eq_true rfl) (by decide) ?_
  refine run_ok 1 (c' := (124, [(0, .ref 0), (1, .int (nI 1)), (2, .int (nI a)), (3, .int (nI 3)), (4, .int (nI b)), (5, .int (nI n)), (6, .ref 40), (7, .ref 44)], [.int (nI 1)], (rwr S 45 (va_cpy (S.1 41) (S.1 45) a b n)))) rfl ?_
  exact x_ret (r := some (.int (nI 1))) rfl rfl trivial ⟨rfl, rfl⟩ rfl

set_option maxHeartbeats 2000000 in
theorem c_copy_null20 (S : ST) (lo fm sz : Nat) (hH : HR 42 lo fm sz S) (lo2 fm2 sz2 : Nat) (hH2 : HR 38 lo2 fm2 sz2 S) (a b n : Int32) (hnl : ¬ (lo = 0 ∧ lo2 = 0)) : EX me_N_copy 2 [.ref 0, .int (nI 2), .int a, .int (nI 0), .int b, .int n] S (fun r u => r = some (.int ((-10) - nI 1)) ∧ u = pt S 0 10 (nI 1)) := by
  refine EX.of mok_N_copy (Nat.le_of_ble_eq_true rfl) ?_
  obtain ⟨g3, g1, g2, hl1, hf2, hs60⟩ := id hH
  obtain ⟨p3, p1, p2, pl1, pf2, ps60⟩ := id hH2
  refine run_ok 2 (c' := (2, [(0, .ref 0), (1, .int (nI 2)), (2, .int a), (3, .int (nI 0)), (4, .int b), (5, .int n)], [.int (nI 4), .int (nI 2)], S)) rfl ?_
  refine x_callS [.int (nI 2), .int (nI 4)] rfl cs_N_isBelow.1 lk_6_73 cs_N_isBelow.2.1 rfl rfl (Nat.le_of_ble_eq_true rfl) (by decide) cs_N_isBelow.2.2 (c_isBelow S (nI 2) (nI 4)) ?_
  rintro r u ⟨hr, hu⟩
  rw [hr, hu]
  clear hr hu r u
  refine x_ifB_eq 16 rfl rfl (fun hn => absurd hn (fun z => z (inr_t (by decide) (by decide)))) (fun h5 => ?_)
  refine run_ok 2 (c' := (10, [(0, .ref 0), (1, .int (nI 2)), (2, .int a), (3, .int (nI 0)), (4, .int b), (5, .int n)], [.int (nI 4), .int (nI 0)], S)) rfl ?_
  refine x_callS [.int (nI 0), .int (nI 4)] rfl cs_N_isBelow.1 lk_6_73 cs_N_isBelow.2.1 rfl rfl (Nat.le_of_ble_eq_true rfl) (by decide) cs_N_isBelow.2.2 (c_isBelow S (nI 0) (nI 4)) ?_
  rintro r u ⟨hr, hu⟩
  rw [hr, hu]
  clear hr hu r u
  refine x_ifB_ne 19 rfl rfl (fun h13 => ?_) (fun hn => absurd (inr_t (by decide) (by decide)) hn)
  refine run_ok 3 (c' := (24, [(0, .ref 0), (1, .int (nI 2)), (2, .int a), (3, .int (nI 0)), (4, .int b), (5, .int n)], [.int (nI 2), .ref 37], S)) rfl ?_
  refine x_aald (t := 42) rfl rfl (vp_in_nI (by decide) (by decide)) (by decide) ?_
  refine run_ok 4 (c' := (32, [(0, .ref 0), (1, .int (nI 2)), (2, .int a), (3, .int (nI 0)), (4, .int b), (5, .int n), (6, .ref 42)], [.int (nI 0), .ref 37], S)) rfl ?_
  refine x_aald (t := 38) rfl rfl (vp_in_nI (by decide) (by decide)) (by decide) ?_
  refine run_ok 3 (c' := (40, [(0, .ref 0), (1, .int (nI 2)), (2, .int a), (3, .int (nI 0)), (4, .int b), (5, .int n), (6, .ref 42), (7, .ref 38)], [.int (S.1 42 3)], S)) rfl ?_
  refine x_top (v' := nI lo) g3 ?_
  refine x_ifN_ne 51 rfl rfl (by omega) (fun h40 => ?_) (fun h40 => ?_)
  · refine run_ok 2 (c' := (53, [(0, .ref 0), (1, .int (nI 2)), (2, .int a), (3, .int (nI 0)), (4, .int b), (5, .int n), (6, .ref 42), (7, .ref 38)], [.int (nI 1), .ref 0], S)) rfl ?_
    refine x_callV [.int (nI 1)] rfl cv_N_find.1 lk_6_134 cv_N_find.2.1 cv_N_find.2.2.1 rfl cv_N_find.2.2.2.1 rfl rfl (Nat.le_of_ble_eq_true rfl) (by decide) cv_N_find.2.2.2.2 (c_find S (1)) ?_
    rintro r x ⟨hr, hu⟩
    rw [hr, hu]
    clear hr hu r x
    exact x_ret (r := some (.int ((-10) - nI 1))) rfl rfl trivial ⟨rfl, rfl⟩ rfl
  · refine run_ok 2 (c' := (48, [(0, .ref 0), (1, .int (nI 2)), (2, .int a), (3, .int (nI 0)), (4, .int b), (5, .int n), (6, .ref 42), (7, .ref 38)], [.int (S.1 38 3)], S)) rfl ?_
    refine x_top (v' := nI lo2) p3 ?_
    refine x_ifN_eq 57 rfl rfl (by omega) (fun h48 => ?_) (fun h48 => ?_)
    · exact absurd hnl (by omega)
    · refine run_ok 2 (c' := (53, [(0, .ref 0), (1, .int (nI 2)), (2, .int a), (3, .int (nI 0)), (4, .int b), (5, .int n), (6, .ref 42), (7, .ref 38)], [.int (nI 1), .ref 0], S)) rfl ?_
      refine x_callV [.int (nI 1)] rfl cv_N_find.1 lk_6_134 cv_N_find.2.1 cv_N_find.2.2.1 rfl cv_N_find.2.2.2.1 rfl rfl (Nat.le_of_ble_eq_true rfl) (by decide) cv_N_find.2.2.2.2 (c_find S (1)) ?_
      rintro r x ⟨hr, hu⟩
      rw [hr, hu]
      clear hr hu r x
      exact x_ret (r := some (.int ((-10) - nI 1))) rfl rfl trivial ⟨rfl, rfl⟩ rfl

set_option maxHeartbeats 2000000 in
theorem c_copy_store20 (S : ST) (lo fm sz : Nat) (hH : HR 42 lo fm sz S) (lo2 fm2 sz2 : Nat) (hH2 : HR 38 lo2 fm2 sz2 S) (a b n : Int32) (hz1 : lo = 0) (hz2 : lo2 = 0) (hst : ¬ fm = fm2) : EX me_N_copy 2 [.ref 0, .int (nI 2), .int a, .int (nI 0), .int b, .int n] S (fun r u => r = some (.int ((-10) - nI 4)) ∧ u = pt S 0 10 (nI 4)) := by
  refine EX.of mok_N_copy (Nat.le_of_ble_eq_true rfl) ?_
  obtain ⟨g3, g1, g2, hl1, hf2, hs60⟩ := id hH
  obtain ⟨p3, p1, p2, pl1, pf2, ps60⟩ := id hH2
  refine run_ok 2 (c' := (2, [(0, .ref 0), (1, .int (nI 2)), (2, .int a), (3, .int (nI 0)), (4, .int b), (5, .int n)], [.int (nI 4), .int (nI 2)], S)) rfl ?_
  refine x_callS [.int (nI 2), .int (nI 4)] rfl cs_N_isBelow.1 lk_6_73 cs_N_isBelow.2.1 rfl rfl (Nat.le_of_ble_eq_true rfl) (by decide) cs_N_isBelow.2.2 (c_isBelow S (nI 2) (nI 4)) ?_
  rintro r u ⟨hr, hu⟩
  rw [hr, hu]
  clear hr hu r u
  refine x_ifB_eq 16 rfl rfl (fun hn => absurd hn (fun z => z (inr_t (by decide) (by decide)))) (fun h5 => ?_)
  refine run_ok 2 (c' := (10, [(0, .ref 0), (1, .int (nI 2)), (2, .int a), (3, .int (nI 0)), (4, .int b), (5, .int n)], [.int (nI 4), .int (nI 0)], S)) rfl ?_
  refine x_callS [.int (nI 0), .int (nI 4)] rfl cs_N_isBelow.1 lk_6_73 cs_N_isBelow.2.1 rfl rfl (Nat.le_of_ble_eq_true rfl) (by decide) cs_N_isBelow.2.2 (c_isBelow S (nI 0) (nI 4)) ?_
  rintro r u ⟨hr, hu⟩
  rw [hr, hu]
  clear hr hu r u
  refine x_ifB_ne 19 rfl rfl (fun h13 => ?_) (fun hn => absurd (inr_t (by decide) (by decide)) hn)
  refine run_ok 3 (c' := (24, [(0, .ref 0), (1, .int (nI 2)), (2, .int a), (3, .int (nI 0)), (4, .int b), (5, .int n)], [.int (nI 2), .ref 37], S)) rfl ?_
  refine x_aald (t := 42) rfl rfl (vp_in_nI (by decide) (by decide)) (by decide) ?_
  refine run_ok 4 (c' := (32, [(0, .ref 0), (1, .int (nI 2)), (2, .int a), (3, .int (nI 0)), (4, .int b), (5, .int n), (6, .ref 42)], [.int (nI 0), .ref 37], S)) rfl ?_
  refine x_aald (t := 38) rfl rfl (vp_in_nI (by decide) (by decide)) (by decide) ?_
  refine run_ok 3 (c' := (40, [(0, .ref 0), (1, .int (nI 2)), (2, .int a), (3, .int (nI 0)), (4, .int b), (5, .int n), (6, .ref 42), (7, .ref 38)], [.int (S.1 42 3)], S)) rfl ?_
  refine x_top (v' := nI lo) g3 ?_
  refine x_ifN_ne 51 rfl rfl (by omega) (fun hn => absurd hz1 hn) (fun h40 => ?_)
  refine run_ok 2 (c' := (48, [(0, .ref 0), (1, .int (nI 2)), (2, .int a), (3, .int (nI 0)), (4, .int b), (5, .int n), (6, .ref 42), (7, .ref 38)], [.int (S.1 38 3)], S)) rfl ?_
  refine x_top (v' := nI lo2) p3 ?_
  refine x_ifN_eq 57 rfl rfl (by omega) (fun h48 => ?_) (fun hn => absurd hz2 hn)
  refine run_ok 2 (c' := (62, [(0, .ref 0), (1, .int (nI 2)), (2, .int a), (3, .int (nI 0)), (4, .int b), (5, .int n), (6, .ref 42), (7, .ref 38)], [.int (S.1 42 1)], S)) rfl ?_
  refine x_top (v' := nI fm) g1 ?_
  refine run_ok 2 (c' := (67, [(0, .ref 0), (1, .int (nI 2)), (2, .int a), (3, .int (nI 0)), (4, .int b), (5, .int n), (6, .ref 42), (7, .ref 38)], [.int (S.1 38 1), .int (nI fm)], S)) rfl ?_
  refine x_top (v' := nI fm2) p1 ?_
  refine x_icmpN_eq 76 rfl rfl (by omega) (by omega) (fun hn => absurd hn hst) (fun h67 => ?_)
  refine run_ok 2 (c' := (72, [(0, .ref 0), (1, .int (nI 2)), (2, .int a), (3, .int (nI 0)), (4, .int b), (5, .int n), (6, .ref 42), (7, .ref 38)], [.int (nI 4), .ref 0], S)) rfl ?_
  refine x_callV [.int (nI 4)] rfl cv_N_find.1 lk_6_134 cv_N_find.2.1 cv_N_find.2.2.1 rfl cv_N_find.2.2.2.1 rfl rfl (Nat.le_of_ble_eq_true rfl) (by decide) cv_N_find.2.2.2.2 (c_find S (4)) ?_
  rintro r x ⟨hr, hu⟩
  rw [hr, hu]
  clear hr hu r x
  exact x_ret (r := some (.int ((-10) - nI 4))) rfl rfl trivial ⟨rfl, rfl⟩ rfl

set_option maxHeartbeats 2000000 in
theorem c_copy_index20 (S : ST) (lo fm sz : Nat) (hH : HR 42 lo fm sz S) (lo2 fm2 sz2 : Nat) (hH2 : HR 38 lo2 fm2 sz2 S) (a b n : Int32) (hz1 : lo = 0) (hz2 : lo2 = 0) (hst : fm = fm2) (hix : ¬ (hasI sz a n ∧ hasI sz2 b n)) : EX me_N_copy 2 [.ref 0, .int (nI 2), .int a, .int (nI 0), .int b, .int n] S (fun r u => r = some (.int ((-10) - nI 2)) ∧ u = pt S 0 10 (nI 2)) := by
  refine EX.of mok_N_copy (Nat.le_of_ble_eq_true rfl) ?_
  obtain ⟨g3, g1, g2, hl1, hf2, hs60⟩ := id hH
  obtain ⟨p3, p1, p2, pl1, pf2, ps60⟩ := id hH2
  refine run_ok 2 (c' := (2, [(0, .ref 0), (1, .int (nI 2)), (2, .int a), (3, .int (nI 0)), (4, .int b), (5, .int n)], [.int (nI 4), .int (nI 2)], S)) rfl ?_
  refine x_callS [.int (nI 2), .int (nI 4)] rfl cs_N_isBelow.1 lk_6_73 cs_N_isBelow.2.1 rfl rfl (Nat.le_of_ble_eq_true rfl) (by decide) cs_N_isBelow.2.2 (c_isBelow S (nI 2) (nI 4)) ?_
  rintro r u ⟨hr, hu⟩
  rw [hr, hu]
  clear hr hu r u
  refine x_ifB_eq 16 rfl rfl (fun hn => absurd hn (fun z => z (inr_t (by decide) (by decide)))) (fun h5 => ?_)
  refine run_ok 2 (c' := (10, [(0, .ref 0), (1, .int (nI 2)), (2, .int a), (3, .int (nI 0)), (4, .int b), (5, .int n)], [.int (nI 4), .int (nI 0)], S)) rfl ?_
  refine x_callS [.int (nI 0), .int (nI 4)] rfl cs_N_isBelow.1 lk_6_73 cs_N_isBelow.2.1 rfl rfl (Nat.le_of_ble_eq_true rfl) (by decide) cs_N_isBelow.2.2 (c_isBelow S (nI 0) (nI 4)) ?_
  rintro r u ⟨hr, hu⟩
  rw [hr, hu]
  clear hr hu r u
  refine x_ifB_ne 19 rfl rfl (fun h13 => ?_) (fun hn => absurd (inr_t (by decide) (by decide)) hn)
  refine run_ok 3 (c' := (24, [(0, .ref 0), (1, .int (nI 2)), (2, .int a), (3, .int (nI 0)), (4, .int b), (5, .int n)], [.int (nI 2), .ref 37], S)) rfl ?_
  refine x_aald (t := 42) rfl rfl (vp_in_nI (by decide) (by decide)) (by decide) ?_
  refine run_ok 4 (c' := (32, [(0, .ref 0), (1, .int (nI 2)), (2, .int a), (3, .int (nI 0)), (4, .int b), (5, .int n), (6, .ref 42)], [.int (nI 0), .ref 37], S)) rfl ?_
  refine x_aald (t := 38) rfl rfl (vp_in_nI (by decide) (by decide)) (by decide) ?_
  refine run_ok 3 (c' := (40, [(0, .ref 0), (1, .int (nI 2)), (2, .int a), (3, .int (nI 0)), (4, .int b), (5, .int n), (6, .ref 42), (7, .ref 38)], [.int (S.1 42 3)], S)) rfl ?_
  refine x_top (v' := nI lo) g3 ?_
  refine x_ifN_ne 51 rfl rfl (by omega) (fun hn => absurd hz1 hn) (fun h40 => ?_)
  refine run_ok 2 (c' := (48, [(0, .ref 0), (1, .int (nI 2)), (2, .int a), (3, .int (nI 0)), (4, .int b), (5, .int n), (6, .ref 42), (7, .ref 38)], [.int (S.1 38 3)], S)) rfl ?_
  refine x_top (v' := nI lo2) p3 ?_
  refine x_ifN_eq 57 rfl rfl (by omega) (fun h48 => ?_) (fun hn => absurd hz2 hn)
  refine run_ok 2 (c' := (62, [(0, .ref 0), (1, .int (nI 2)), (2, .int a), (3, .int (nI 0)), (4, .int b), (5, .int n), (6, .ref 42), (7, .ref 38)], [.int (S.1 42 1)], S)) rfl ?_
  refine x_top (v' := nI fm) g1 ?_
  refine run_ok 2 (c' := (67, [(0, .ref 0), (1, .int (nI 2)), (2, .int a), (3, .int (nI 0)), (4, .int b), (5, .int n), (6, .ref 42), (7, .ref 38)], [.int (S.1 38 1), .int (nI fm)], S)) rfl ?_
  refine x_top (v' := nI fm2) p1 ?_
  refine x_icmpN_eq 76 rfl rfl (by omega) (by omega) (fun h67 => ?_) (fun hn => absurd hst hn)
  refine run_ok 3 (c' := (81, [(0, .ref 0), (1, .int (nI 2)), (2, .int a), (3, .int (nI 0)), (4, .int b), (5, .int n), (6, .ref 42), (7, .ref 38)], [.int n, .int a, .ref 42], S)) rfl ?_
  refine x_callV [.int a, .int n] rfl cv_H_hasItems.1 lk_6_265 cv_H_hasItems.2.1 cv_H_hasItems.2.2.1 rfl cv_H_hasItems.2.2.2.1 rfl rfl (Nat.le_of_ble_eq_true rfl) (by decide) cv_H_hasItems.2.2.2.2 (c_hasItems2 S lo fm sz hH (a) (n)) ?_
  rintro r x ⟨hr, hu⟩
  rw [hr, hu]
  clear hr hu r x
  refine x_ifB_eq 99 rfl rfl (fun h84 => ?_) (fun h84 => ?_)
  · refine run_ok 2 (c' := (101, [(0, .ref 0), (1, .int (nI 2)), (2, .int a), (3, .int (nI 0)), (4, .int b), (5, .int n), (6, .ref 42), (7, .ref 38)], [.int (nI 2), .ref 0], S)) rfl ?_
    refine x_callV [.int (nI 2)] rfl cv_N_find.1 lk_6_134 cv_N_find.2.1 cv_N_find.2.2.1 rfl cv_N_find.2.2.2.1 rfl rfl (Nat.le_of_ble_eq_true rfl) (by decide) cv_N_find.2.2.2.2 (c_find S (2)) ?_
    rintro r x ⟨hr, hu⟩
    rw [hr, hu]
    clear hr hu r x
    exact x_ret (r := some (.int ((-10) - nI 2))) rfl rfl trivial ⟨rfl, rfl⟩ rfl
  · refine run_ok 3 (c' := (93, [(0, .ref 0), (1, .int (nI 2)), (2, .int a), (3, .int (nI 0)), (4, .int b), (5, .int n), (6, .ref 42), (7, .ref 38)], [.int n, .int b, .ref 38], S)) rfl ?_
    refine x_callV [.int b, .int n] rfl cv_H_hasItems.1 lk_6_265 cv_H_hasItems.2.1 cv_H_hasItems.2.2.1 rfl cv_H_hasItems.2.2.2.1 rfl rfl (Nat.le_of_ble_eq_true rfl) (by decide) cv_H_hasItems.2.2.2.2 (c_hasItems0 S lo2 fm2 sz2 hH2 (b) (n)) ?_
    rintro r x ⟨hr, hu⟩
    rw [hr, hu]
    clear hr hu r x
    refine x_ifB_ne 105 rfl rfl (fun h96 => ?_) (fun h96 => ?_)
    · exact absurd ⟨h84, h96⟩ hix
    · refine run_ok 2 (c' := (101, [(0, .ref 0), (1, .int (nI 2)), (2, .int a), (3, .int (nI 0)), (4, .int b), (5, .int n), (6, .ref 42), (7, .ref 38)], [.int (nI 2), .ref 0], S)) rfl ?_
      refine x_callV [.int (nI 2)] rfl cv_N_find.1 lk_6_134 cv_N_find.2.1 cv_N_find.2.2.1 rfl cv_N_find.2.2.2.1 rfl rfl (Nat.le_of_ble_eq_true rfl) (by decide) cv_N_find.2.2.2.2 (c_find S (2)) ?_
      rintro r x ⟨hr, hu⟩
      rw [hr, hu]
      clear hr hu r x
      exact x_ret (r := some (.int ((-10) - nI 2))) rfl rfl trivial ⟨rfl, rfl⟩ rfl

set_option maxHeartbeats 2000000 in
theorem c_copy_ok20 (S : ST) (lo fm sz : Nat) (hH : HR 42 lo fm sz S) (lo2 fm2 sz2 : Nat) (hH2 : HR 38 lo2 fm2 sz2 S) (a b n : Nat) (hz1 : lo = 0) (hz2 : lo2 = 0) (hst : fm = fm2) (ha : a + n ≤ sz) (hb : b + n ≤ sz2) : EX me_N_copy 2 [.ref 0, .int (nI 2), .int (nI a), .int (nI 0), .int (nI b), .int (nI n)] S (fun r u => r = some (.int 1) ∧ u = rwr S 39 (va_cpy (S.1 43) (S.1 39) a b n)) := by
  refine EX.of mok_N_copy (Nat.le_of_ble_eq_true rfl) ?_
  obtain ⟨g3, g1, g2, hl1, hf2, hs60⟩ := id hH
  obtain ⟨p3, p1, p2, pl1, pf2, ps60⟩ := id hH2
  refine run_ok 2 (c' := (2, [(0, .ref 0), (1, .int (nI 2)), (2, .int (nI a)), (3, .int (nI 0)), (4, .int (nI b)), (5, .int (nI n))], [.int (nI 4), .int (nI 2)], S)) rfl ?_
  refine x_callS [.int (nI 2), .int (nI 4)] rfl cs_N_isBelow.1 lk_6_73 cs_N_isBelow.2.1 rfl rfl (Nat.le_of_ble_eq_true rfl) (by decide) cs_N_isBelow.2.2 (c_isBelow S (nI 2) (nI 4)) ?_
  rintro r u ⟨hr, hu⟩
  rw [hr, hu]
  clear hr hu r u
  refine x_ifB_eq 16 rfl rfl (fun hn => absurd hn (fun z => z (inr_t (by decide) (by decide)))) (fun h5 => ?_)
  refine run_ok 2 (c' := (10, [(0, .ref 0), (1, .int (nI 2)), (2, .int (nI a)), (3, .int (nI 0)), (4, .int (nI b)), (5, .int (nI n))], [.int (nI 4), .int (nI 0)], S)) rfl ?_
  refine x_callS [.int (nI 0), .int (nI 4)] rfl cs_N_isBelow.1 lk_6_73 cs_N_isBelow.2.1 rfl rfl (Nat.le_of_ble_eq_true rfl) (by decide) cs_N_isBelow.2.2 (c_isBelow S (nI 0) (nI 4)) ?_
  rintro r u ⟨hr, hu⟩
  rw [hr, hu]
  clear hr hu r u
  refine x_ifB_ne 19 rfl rfl (fun h13 => ?_) (fun hn => absurd (inr_t (by decide) (by decide)) hn)
  refine run_ok 3 (c' := (24, [(0, .ref 0), (1, .int (nI 2)), (2, .int (nI a)), (3, .int (nI 0)), (4, .int (nI b)), (5, .int (nI n))], [.int (nI 2), .ref 37], S)) rfl ?_
  refine x_aald (t := 42) rfl rfl (vp_in_nI (by decide) (by decide)) (by decide) ?_
  refine run_ok 4 (c' := (32, [(0, .ref 0), (1, .int (nI 2)), (2, .int (nI a)), (3, .int (nI 0)), (4, .int (nI b)), (5, .int (nI n)), (6, .ref 42)], [.int (nI 0), .ref 37], S)) rfl ?_
  refine x_aald (t := 38) rfl rfl (vp_in_nI (by decide) (by decide)) (by decide) ?_
  refine run_ok 3 (c' := (40, [(0, .ref 0), (1, .int (nI 2)), (2, .int (nI a)), (3, .int (nI 0)), (4, .int (nI b)), (5, .int (nI n)), (6, .ref 42), (7, .ref 38)], [.int (S.1 42 3)], S)) rfl ?_
  refine x_top (v' := nI lo) g3 ?_
  refine x_ifN_ne 51 rfl rfl (by omega) (fun hn => absurd hz1 hn) (fun h40 => ?_)
  refine run_ok 2 (c' := (48, [(0, .ref 0), (1, .int (nI 2)), (2, .int (nI a)), (3, .int (nI 0)), (4, .int (nI b)), (5, .int (nI n)), (6, .ref 42), (7, .ref 38)], [.int (S.1 38 3)], S)) rfl ?_
  refine x_top (v' := nI lo2) p3 ?_
  refine x_ifN_eq 57 rfl rfl (by omega) (fun h48 => ?_) (fun hn => absurd hz2 hn)
  refine run_ok 2 (c' := (62, [(0, .ref 0), (1, .int (nI 2)), (2, .int (nI a)), (3, .int (nI 0)), (4, .int (nI b)), (5, .int (nI n)), (6, .ref 42), (7, .ref 38)], [.int (S.1 42 1)], S)) rfl ?_
  refine x_top (v' := nI fm) g1 ?_
  refine run_ok 2 (c' := (67, [(0, .ref 0), (1, .int (nI 2)), (2, .int (nI a)), (3, .int (nI 0)), (4, .int (nI b)), (5, .int (nI n)), (6, .ref 42), (7, .ref 38)], [.int (S.1 38 1), .int (nI fm)], S)) rfl ?_
  refine x_top (v' := nI fm2) p1 ?_
  refine x_icmpN_eq 76 rfl rfl (by omega) (by omega) (fun h67 => ?_) (fun hn => absurd hst hn)
  refine run_ok 3 (c' := (81, [(0, .ref 0), (1, .int (nI 2)), (2, .int (nI a)), (3, .int (nI 0)), (4, .int (nI b)), (5, .int (nI n)), (6, .ref 42), (7, .ref 38)], [.int (nI n), .int (nI a), .ref 42], S)) rfl ?_
  refine x_callV [.int (nI a), .int (nI n)] rfl cv_H_hasItems.1 lk_6_265 cv_H_hasItems.2.1 cv_H_hasItems.2.2.1 rfl cv_H_hasItems.2.2.2.1 rfl rfl (Nat.le_of_ble_eq_true rfl) (by decide) cv_H_hasItems.2.2.2.2 (c_hasItems2 S lo fm sz hH (nI a) (nI n)) ?_
  rintro r x ⟨hr, hu⟩
  rw [hr, hu]
  clear hr hu r x
  refine x_ifB_eq 99 rfl rfl (fun hn => absurd hn (fun z => z (hasI_t ha hs60))) (fun h84 => ?_)
  refine run_ok 3 (c' := (93, [(0, .ref 0), (1, .int (nI 2)), (2, .int (nI a)), (3, .int (nI 0)), (4, .int (nI b)), (5, .int (nI n)), (6, .ref 42), (7, .ref 38)], [.int (nI n), .int (nI b), .ref 38], S)) rfl ?_
  refine x_callV [.int (nI b), .int (nI n)] rfl cv_H_hasItems.1 lk_6_265 cv_H_hasItems.2.1 cv_H_hasItems.2.2.1 rfl cv_H_hasItems.2.2.2.1 rfl rfl (Nat.le_of_ble_eq_true rfl) (by decide) cv_H_hasItems.2.2.2.2 (c_hasItems0 S lo2 fm2 sz2 hH2 (nI b) (nI n)) ?_
  rintro r x ⟨hr, hu⟩
  rw [hr, hu]
  clear hr hu r x
  refine x_ifB_ne 105 rfl rfl (fun h96 => ?_) (fun hn => absurd (hasI_t hb ps60) hn)
  refine run_ok 7 (c' := (120, [(0, .ref 0), (1, .int (nI 2)), (2, .int (nI a)), (3, .int (nI 0)), (4, .int (nI b)), (5, .int (nI n)), (6, .ref 42), (7, .ref 38)], [.int (nI n), .int (nI b), .ref 39, .int (nI a), .ref 43], S)) rfl ?_
  refine x_copyN rfl lk_6_268 rfl rfl (by decide) (by decide) (by omega) (by omega) (Nat.le_of_ble_eq_true rfl) (by decide) ?_
  refine run_ok 1 (c' := (124, [(0, .ref 0), (1, .int (nI 2)), (2, .int (nI a)), (3, .int (nI 0)), (4, .int (nI b)), (5, .int (nI n)), (6, .ref 42), (7, .ref 38)], [.int (nI 1)], (rwr S 39 (va_cpy (S.1 43) (S.1 39) a b n)))) rfl ?_
  exact x_ret (r := some (.int (nI 1))) rfl rfl trivial ⟨rfl, rfl⟩ rfl

set_option maxHeartbeats 2000000 in
theorem c_copy_null21 (S : ST) (lo fm sz : Nat) (hH : HR 42 lo fm sz S) (lo2 fm2 sz2 : Nat) (hH2 : HR 40 lo2 fm2 sz2 S) (a b n : Int32) (hnl : ¬ (lo = 0 ∧ lo2 = 0)) : EX me_N_copy 2 [.ref 0, .int (nI 2), .int a, .int (nI 1), .int b, .int n] S (fun r u => r = some (.int ((-10) - nI 1)) ∧ u = pt S 0 10 (nI 1)) := by
  refine EX.of mok_N_copy (Nat.le_of_ble_eq_true rfl) ?_
  obtain ⟨g3, g1, g2, hl1, hf2, hs60⟩ := id hH
  obtain ⟨p3, p1, p2, pl1, pf2, ps60⟩ := id hH2
  refine run_ok 2 (c' := (2, [(0, .ref 0), (1, .int (nI 2)), (2, .int a), (3, .int (nI 1)), (4, .int b), (5, .int n)], [.int (nI 4), .int (nI 2)], S)) rfl ?_
  refine x_callS [.int (nI 2), .int (nI 4)] rfl cs_N_isBelow.1 lk_6_73 cs_N_isBelow.2.1 rfl rfl (Nat.le_of_ble_eq_true rfl) (by decide) cs_N_isBelow.2.2 (c_isBelow S (nI 2) (nI 4)) ?_
  rintro r u ⟨hr, hu⟩
  rw [hr, hu]
  clear hr hu r u
  refine x_ifB_eq 16 rfl rfl (fun hn => absurd hn (fun z => z (inr_t (by decide) (by decide)))) (fun h5 => ?_)
  refine run_ok 2 (c' := (10, [(0, .ref 0), (1, .int (nI 2)), (2, .int a), (3, .int (nI 1)), (4, .int b), (5, .int n)], [.int (nI 4), .int (nI 1)], S)) rfl ?_
  refine x_callS [.int (nI 1), .int (nI 4)] rfl cs_N_isBelow.1 lk_6_73 cs_N_isBelow.2.1 rfl rfl (Nat.le_of_ble_eq_true rfl) (by decide) cs_N_isBelow.2.2 (c_isBelow S (nI 1) (nI 4)) ?_
  rintro r u ⟨hr, hu⟩
  rw [hr, hu]
  clear hr hu r u
  refine x_ifB_ne 19 rfl rfl (fun h13 => ?_) (fun hn => absurd (inr_t (by decide) (by decide)) hn)
  refine run_ok 3 (c' := (24, [(0, .ref 0), (1, .int (nI 2)), (2, .int a), (3, .int (nI 1)), (4, .int b), (5, .int n)], [.int (nI 2), .ref 37], S)) rfl ?_
  refine x_aald (t := 42) rfl rfl (vp_in_nI (by decide) (by decide)) (by decide) ?_
  refine run_ok 4 (c' := (32, [(0, .ref 0), (1, .int (nI 2)), (2, .int a), (3, .int (nI 1)), (4, .int b), (5, .int n), (6, .ref 42)], [.int (nI 1), .ref 37], S)) rfl ?_
  refine x_aald (t := 40) rfl rfl (vp_in_nI (by decide) (by decide)) (by decide) ?_
  refine run_ok 3 (c' := (40, [(0, .ref 0), (1, .int (nI 2)), (2, .int a), (3, .int (nI 1)), (4, .int b), (5, .int n), (6, .ref 42), (7, .ref 40)], [.int (S.1 42 3)], S)) rfl ?_
  refine x_top (v' := nI lo) g3 ?_
  refine x_ifN_ne 51 rfl rfl (by omega) (fun h40 => ?_) (fun h40 => ?_)
  · refine run_ok 2 (c' := (53, [(0, .ref 0), (1, .int (nI 2)), (2, .int a), (3, .int (nI 1)), (4, .int b), (5, .int n), (6, .ref 42), (7, .ref 40)], [.int (nI 1), .ref 0], S)) rfl ?_
    refine x_callV [.int (nI 1)] rfl cv_N_find.1 lk_6_134 cv_N_find.2.1 cv_N_find.2.2.1 rfl cv_N_find.2.2.2.1 rfl rfl (Nat.le_of_ble_eq_true rfl) (by decide) cv_N_find.2.2.2.2 (c_find S (1)) ?_
    rintro r x ⟨hr, hu⟩
    rw [hr, hu]
    clear hr hu r x
    exact x_ret (r := some (.int ((-10) - nI 1))) rfl rfl trivial ⟨rfl, rfl⟩ rfl
  · refine run_ok 2 (c' := (48, [(0, .ref 0), (1, .int (nI 2)), (2, .int a), (3, .int (nI 1)), (4, .int b), (5, .int n), (6, .ref 42), (7, .ref 40)], [.int (S.1 40 3)], S)) rfl ?_
    refine x_top (v' := nI lo2) p3 ?_
    refine x_ifN_eq 57 rfl rfl (by omega) (fun h48 => ?_) (fun h48 => ?_)
    · exact absurd hnl (by omega)
    · refine run_ok 2 (c' := (53, [(0, .ref 0), (1, .int (nI 2)), (2, .int a), (3, .int (nI 1)), (4, .int b), (5, .int n), (6, .ref 42), (7, .ref 40)], [.int (nI 1), .ref 0], S)) rfl ?_
      refine x_callV [.int (nI 1)] rfl cv_N_find.1 lk_6_134 cv_N_find.2.1 cv_N_find.2.2.1 rfl cv_N_find.2.2.2.1 rfl rfl (Nat.le_of_ble_eq_true rfl) (by decide) cv_N_find.2.2.2.2 (c_find S (1)) ?_
      rintro r x ⟨hr, hu⟩
      rw [hr, hu]
      clear hr hu r x
      exact x_ret (r := some (.int ((-10) - nI 1))) rfl rfl trivial ⟨rfl, rfl⟩ rfl

set_option maxHeartbeats 2000000 in
theorem c_copy_store21 (S : ST) (lo fm sz : Nat) (hH : HR 42 lo fm sz S) (lo2 fm2 sz2 : Nat) (hH2 : HR 40 lo2 fm2 sz2 S) (a b n : Int32) (hz1 : lo = 0) (hz2 : lo2 = 0) (hst : ¬ fm = fm2) : EX me_N_copy 2 [.ref 0, .int (nI 2), .int a, .int (nI 1), .int b, .int n] S (fun r u => r = some (.int ((-10) - nI 4)) ∧ u = pt S 0 10 (nI 4)) := by
  refine EX.of mok_N_copy (Nat.le_of_ble_eq_true rfl) ?_
  obtain ⟨g3, g1, g2, hl1, hf2, hs60⟩ := id hH
  obtain ⟨p3, p1, p2, pl1, pf2, ps60⟩ := id hH2
  refine run_ok 2 (c' := (2, [(0, .ref 0), (1, .int (nI 2)), (2, .int a), (3, .int (nI 1)), (4, .int b), (5, .int n)], [.int (nI 4), .int (nI 2)], S)) rfl ?_
  refine x_callS [.int (nI 2), .int (nI 4)] rfl cs_N_isBelow.1 lk_6_73 cs_N_isBelow.2.1 rfl rfl (Nat.le_of_ble_eq_true rfl) (by decide) cs_N_isBelow.2.2 (c_isBelow S (nI 2) (nI 4)) ?_
  rintro r u ⟨hr, hu⟩
  rw [hr, hu]
  clear hr hu r u
  refine x_ifB_eq 16 rfl rfl (fun hn => absurd hn (fun z => z (inr_t (by decide) (by decide)))) (fun h5 => ?_)
  refine run_ok 2 (c' := (10, [(0, .ref 0), (1, .int (nI 2)), (2, .int a), (3, .int (nI 1)), (4, .int b), (5, .int n)], [.int (nI 4), .int (nI 1)], S)) rfl ?_
  refine x_callS [.int (nI 1), .int (nI 4)] rfl cs_N_isBelow.1 lk_6_73 cs_N_isBelow.2.1 rfl rfl (Nat.le_of_ble_eq_true rfl) (by decide) cs_N_isBelow.2.2 (c_isBelow S (nI 1) (nI 4)) ?_
  rintro r u ⟨hr, hu⟩
  rw [hr, hu]
  clear hr hu r u
  refine x_ifB_ne 19 rfl rfl (fun h13 => ?_) (fun hn => absurd (inr_t (by decide) (by decide)) hn)
  refine run_ok 3 (c' := (24, [(0, .ref 0), (1, .int (nI 2)), (2, .int a), (3, .int (nI 1)), (4, .int b), (5, .int n)], [.int (nI 2), .ref 37], S)) rfl ?_
  refine x_aald (t := 42) rfl rfl (vp_in_nI (by decide) (by decide)) (by decide) ?_
  refine run_ok 4 (c' := (32, [(0, .ref 0), (1, .int (nI 2)), (2, .int a), (3, .int (nI 1)), (4, .int b), (5, .int n), (6, .ref 42)], [.int (nI 1), .ref 37], S)) rfl ?_
  refine x_aald (t := 40) rfl rfl (vp_in_nI (by decide) (by decide)) (by decide) ?_
  refine run_ok 3 (c' := (40, [(0, .ref 0), (1, .int (nI 2)), (2, .int a), (3, .int (nI 1)), (4, .int b), (5, .int n), (6, .ref 42), (7, .ref 40)], [.int (S.1 42 3)], S)) rfl ?_
  refine x_top (v' := nI lo) g3 ?_
  refine x_ifN_ne 51 rfl rfl (by omega) (fun hn => absurd hz1 hn) (fun h40 => ?_)
  refine run_ok 2 (c' := (48, [(0, .ref 0), (1, .int (nI 2)), (2, .int a), (3, .int (nI 1)), (4, .int b), (5, .int n), (6, .ref 42), (7, .ref 40)], [.int (S.1 40 3)], S)) rfl ?_
  refine x_top (v' := nI lo2) p3 ?_
  refine x_ifN_eq 57 rfl rfl (by omega) (fun h48 => ?_) (fun hn => absurd hz2 hn)
  refine run_ok 2 (c' := (62, [(0, .ref 0), (1, .int (nI 2)), (2, .int a), (3, .int (nI 1)), (4, .int b), (5, .int n), (6, .ref 42), (7, .ref 40)], [.int (S.1 42 1)], S)) rfl ?_
  refine x_top (v' := nI fm) g1 ?_
  refine run_ok 2 (c' := (67, [(0, .ref 0), (1, .int (nI 2)), (2, .int a), (3, .int (nI 1)), (4, .int b), (5, .int n), (6, .ref 42), (7, .ref 40)], [.int (S.1 40 1), .int (nI fm)], S)) rfl ?_
  refine x_top (v' := nI fm2) p1 ?_
  refine x_icmpN_eq 76 rfl rfl (by omega) (by omega) (fun hn => absurd hn hst) (fun h67 => ?_)
  refine run_ok 2 (c' := (72, [(0, .ref 0), (1, .int (nI 2)), (2, .int a), (3, .int (nI 1)), (4, .int b), (5, .int n), (6, .ref 42), (7, .ref 40)], [.int (nI 4), .ref 0], S)) rfl ?_
  refine x_callV [.int (nI 4)] rfl cv_N_find.1 lk_6_134 cv_N_find.2.1 cv_N_find.2.2.1 rfl cv_N_find.2.2.2.1 rfl rfl (Nat.le_of_ble_eq_true rfl) (by decide) cv_N_find.2.2.2.2 (c_find S (4)) ?_
  rintro r x ⟨hr, hu⟩
  rw [hr, hu]
  clear hr hu r x
  exact x_ret (r := some (.int ((-10) - nI 4))) rfl rfl trivial ⟨rfl, rfl⟩ rfl

set_option maxHeartbeats 2000000 in
theorem c_copy_index21 (S : ST) (lo fm sz : Nat) (hH : HR 42 lo fm sz S) (lo2 fm2 sz2 : Nat) (hH2 : HR 40 lo2 fm2 sz2 S) (a b n : Int32) (hz1 : lo = 0) (hz2 : lo2 = 0) (hst : fm = fm2) (hix : ¬ (hasI sz a n ∧ hasI sz2 b n)) : EX me_N_copy 2 [.ref 0, .int (nI 2), .int a, .int (nI 1), .int b, .int n] S (fun r u => r = some (.int ((-10) - nI 2)) ∧ u = pt S 0 10 (nI 2)) := by
  refine EX.of mok_N_copy (Nat.le_of_ble_eq_true rfl) ?_
  obtain ⟨g3, g1, g2, hl1, hf2, hs60⟩ := id hH
  obtain ⟨p3, p1, p2, pl1, pf2, ps60⟩ := id hH2
  refine run_ok 2 (c' := (2, [(0, .ref 0), (1, .int (nI 2)), (2, .int a), (3, .int (nI 1)), (4, .int b), (5, .int n)], [.int (nI 4), .int (nI 2)], S)) rfl ?_
  refine x_callS [.int (nI 2), .int (nI 4)] rfl cs_N_isBelow.1 lk_6_73 cs_N_isBelow.2.1 rfl rfl (Nat.le_of_ble_eq_true rfl) (by decide) cs_N_isBelow.2.2 (c_isBelow S (nI 2) (nI 4)) ?_
  rintro r u ⟨hr, hu⟩
  rw [hr, hu]
  clear hr hu r u
  refine x_ifB_eq 16 rfl rfl (fun hn => absurd hn (fun z => z (inr_t (by decide) (by decide)))) (fun h5 => ?_)
  refine run_ok 2 (c' := (10, [(0, .ref 0), (1, .int (nI 2)), (2, .int a), (3, .int (nI 1)), (4, .int b), (5, .int n)], [.int (nI 4), .int (nI 1)], S)) rfl ?_
  refine x_callS [.int (nI 1), .int (nI 4)] rfl cs_N_isBelow.1 lk_6_73 cs_N_isBelow.2.1 rfl rfl (Nat.le_of_ble_eq_true rfl) (by decide) cs_N_isBelow.2.2 (c_isBelow S (nI 1) (nI 4)) ?_
  rintro r u ⟨hr, hu⟩
  rw [hr, hu]
  clear hr hu r u
  refine x_ifB_ne 19 rfl rfl (fun h13 => ?_) (fun hn => absurd (inr_t (by decide) (by decide)) hn)
  refine run_ok 3 (c' := (24, [(0, .ref 0), (1, .int (nI 2)), (2, .int a), (3, .int (nI 1)), (4, .int b), (5, .int n)], [.int (nI 2), .ref 37], S)) rfl ?_
  refine x_aald (t := 42) rfl rfl (vp_in_nI (by decide) (by decide)) (by decide) ?_
  refine run_ok 4 (c' := (32, [(0, .ref 0), (1, .int (nI 2)), (2, .int a), (3, .int (nI 1)), (4, .int b), (5, .int n), (6, .ref 42)], [.int (nI 1), .ref 37], S)) rfl ?_
  refine x_aald (t := 40) rfl rfl (vp_in_nI (by decide) (by decide)) (by decide) ?_
  refine run_ok 3 (c' := (40, [(0, .ref 0), (1, .int (nI 2)), (2, .int a), (3, .int (nI 1)), (4, .int b), (5, .int n), (6, .ref 42), (7, .ref 40)], [.int (S.1 42 3)], S)) rfl ?_
  refine x_top (v' := nI lo) g3 ?_
  refine x_ifN_ne 51 rfl rfl (by omega) (fun hn => absurd hz1 hn) (fun h40 => ?_)
  refine run_ok 2 (c' := (48, [(0, .ref 0), (1, .int (nI 2)), (2, .int a), (3, .int (nI 1)), (4, .int b), (5, .int n), (6, .ref 42), (7, .ref 40)], [.int (S.1 40 3)], S)) rfl ?_
  refine x_top (v' := nI lo2) p3 ?_
  refine x_ifN_eq 57 rfl rfl (by omega) (fun h48 => ?_) (fun hn => absurd hz2 hn)
  refine run_ok 2 (c' := (62, [(0, .ref 0), (1, .int (nI 2)), (2, .int a), (3, .int (nI 1)), (4, .int b), (5, .int n), (6, .ref 42), (7, .ref 40)], [.int (S.1 42 1)], S)) rfl ?_
  refine x_top (v' := nI fm) g1 ?_
  refine run_ok 2 (c' := (67, [(0, .ref 0), (1, .int (nI 2)), (2, .int a), (3, .int (nI 1)), (4, .int b), (5, .int n), (6, .ref 42), (7, .ref 40)], [.int (S.1 40 1), .int (nI fm)], S)) rfl ?_
  refine x_top (v' := nI fm2) p1 ?_
  refine x_icmpN_eq 76 rfl rfl (by omega) (by omega) (fun h67 => ?_) (fun hn => absurd hst hn)
  refine run_ok 3 (c' := (81, [(0, .ref 0), (1, .int (nI 2)), (2, .int a), (3, .int (nI 1)), (4, .int b), (5, .int n), (6, .ref 42), (7, .ref 40)], [.int n, .int a, .ref 42], S)) rfl ?_
  refine x_callV [.int a, .int n] rfl cv_H_hasItems.1 lk_6_265 cv_H_hasItems.2.1 cv_H_hasItems.2.2.1 rfl cv_H_hasItems.2.2.2.1 rfl rfl (Nat.le_of_ble_eq_true rfl) (by decide) cv_H_hasItems.2.2.2.2 (c_hasItems2 S lo fm sz hH (a) (n)) ?_
  rintro r x ⟨hr, hu⟩
  rw [hr, hu]
  clear hr hu r x
  refine x_ifB_eq 99 rfl rfl (fun h84 => ?_) (fun h84 => ?_)
  · refine run_ok 2 (c' := (101, [(0, .ref 0), (1, .int (nI 2)), (2, .int a), (3, .int (nI 1)), (4, .int b), (5, .int n), (6, .ref 42), (7, .ref 40)], [.int (nI 2), .ref 0], S)) rfl ?_
    refine x_callV [.int (nI 2)] rfl cv_N_find.1 lk_6_134 cv_N_find.2.1 cv_N_find.2.2.1 rfl cv_N_find.2.2.2.1 rfl rfl (Nat.le_of_ble_eq_true rfl) (by decide) cv_N_find.2.2.2.2 (c_find S (2)) ?_
    rintro r x ⟨hr, hu⟩
    rw [hr, hu]
    clear hr hu r x
    exact x_ret (r := some (.int ((-10) - nI 2))) rfl rfl trivial ⟨rfl, rfl⟩ rfl
  · refine run_ok 3 (c' := (93, [(0, .ref 0), (1, .int (nI 2)), (2, .int a), (3, .int (nI 1)), (4, .int b), (5, .int n), (6, .ref 42), (7, .ref 40)], [.int n, .int b, .ref 40], S)) rfl ?_
    refine x_callV [.int b, .int n] rfl cv_H_hasItems.1 lk_6_265 cv_H_hasItems.2.1 cv_H_hasItems.2.2.1 rfl cv_H_hasItems.2.2.2.1 rfl rfl (Nat.le_of_ble_eq_true rfl) (by decide) cv_H_hasItems.2.2.2.2 (c_hasItems1 S lo2 fm2 sz2 hH2 (b) (n)) ?_
    rintro r x ⟨hr, hu⟩
    rw [hr, hu]
    clear hr hu r x
    refine x_ifB_ne 105 rfl rfl (fun h96 => ?_) (fun h96 => ?_)
    · exact absurd ⟨h84, h96⟩ hix
    · refine run_ok 2 (c' := (101, [(0, .ref 0), (1, .int (nI 2)), (2, .int a), (3, .int (nI 1)), (4, .int b), (5, .int n), (6, .ref 42), (7, .ref 40)], [.int (nI 2), .ref 0], S)) rfl ?_
      refine x_callV [.int (nI 2)] rfl cv_N_find.1 lk_6_134 cv_N_find.2.1 cv_N_find.2.2.1 rfl cv_N_find.2.2.2.1 rfl rfl (Nat.le_of_ble_eq_true rfl) (by decide) cv_N_find.2.2.2.2 (c_find S (2)) ?_
      rintro r x ⟨hr, hu⟩
      rw [hr, hu]
      clear hr hu r x
      exact x_ret (r := some (.int ((-10) - nI 2))) rfl rfl trivial ⟨rfl, rfl⟩ rfl

set_option maxHeartbeats 2000000 in
theorem c_copy_ok21 (S : ST) (lo fm sz : Nat) (hH : HR 42 lo fm sz S) (lo2 fm2 sz2 : Nat) (hH2 : HR 40 lo2 fm2 sz2 S) (a b n : Nat) (hz1 : lo = 0) (hz2 : lo2 = 0) (hst : fm = fm2) (ha : a + n ≤ sz) (hb : b + n ≤ sz2) : EX me_N_copy 2 [.ref 0, .int (nI 2), .int (nI a), .int (nI 1), .int (nI b), .int (nI n)] S (fun r u => r = some (.int 1) ∧ u = rwr S 41 (va_cpy (S.1 43) (S.1 41) a b n)) := by
  refine EX.of mok_N_copy (Nat.le_of_ble_eq_true rfl) ?_
  obtain ⟨g3, g1, g2, hl1, hf2, hs60⟩ := id hH
  obtain ⟨p3, p1, p2, pl1, pf2, ps60⟩ := id hH2
  refine run_ok 2 (c' := (2, [(0, .ref 0), (1, .int (nI 2)), (2, .int (nI a)), (3, .int (nI 1)), (4, .int (nI b)), (5, .int (nI n))], [.int (nI 4), .int (nI 2)], S)) rfl ?_
  refine x_callS [.int (nI 2), .int (nI 4)] rfl cs_N_isBelow.1 lk_6_73 cs_N_isBelow.2.1 rfl rfl (Nat.le_of_ble_eq_true rfl) (by decide) cs_N_isBelow.2.2 (c_isBelow S (nI 2) (nI 4)) ?_
  rintro r u ⟨hr, hu⟩
  rw [hr, hu]
  clear hr hu r u
  refine x_ifB_eq 16 rfl rfl (fun hn => absurd hn (fun z => z (inr_t (by decide) (by decide)))) (fun h5 => ?_)
  refine run_ok 2 (c' := (10, [(0, .ref 0), (1, .int (nI 2)), (2, .int (nI a)), (3, .int (nI 1)), (4, .int (nI b)), (5, .int (nI n))], [.int (nI 4), .int (nI 1)], S)) rfl ?_
  refine x_callS [.int (nI 1), .int (nI 4)] rfl cs_N_isBelow.1 lk_6_73 cs_N_isBelow.2.1 rfl rfl (Nat.le_of_ble_eq_true rfl) (by decide) cs_N_isBelow.2.2 (c_isBelow S (nI 1) (nI 4)) ?_
  rintro r u ⟨hr, hu⟩
  rw [hr, hu]
  clear hr hu r u
  refine x_ifB_ne 19 rfl rfl (fun h13 => ?_) (fun hn => absurd (inr_t (by decide) (by decide)) hn)
  refine run_ok 3 (c' := (24, [(0, .ref 0), (1, .int (nI 2)), (2, .int (nI a)), (3, .int (nI 1)), (4, .int (nI b)), (5, .int (nI n))], [.int (nI 2), .ref 37], S)) rfl ?_
  refine x_aald (t := 42) rfl rfl (vp_in_nI (by decide) (by decide)) (by decide) ?_
  refine run_ok 4 (c' := (32, [(0, .ref 0), (1, .int (nI 2)), (2, .int (nI a)), (3, .int (nI 1)), (4, .int (nI b)), (5, .int (nI n)), (6, .ref 42)], [.int (nI 1), .ref 37], S)) rfl ?_
  refine x_aald (t := 40) rfl rfl (vp_in_nI (by decide) (by decide)) (by decide) ?_
  refine run_ok 3 (c' := (40, [(0, .ref 0), (1, .int (nI 2)), (2, .int (nI a)), (3, .int (nI 1)), (4, .int (nI b)), (5, .int (nI n)), (6, .ref 42), (7, .ref 40)], [.int (S.1 42 3)], S)) rfl ?_
  refine x_top (v' := nI lo) g3 ?_
  refine x_ifN_ne 51 rfl rfl (by omega) (fun hn => absurd hz1 hn) (fun h40 => ?_)
  refine run_ok 2 (c' := (48, [(0, .ref 0), (1, .int (nI 2)), (2, .int (nI a)), (3, .int (nI 1)), (4, .int (nI b)), (5, .int (nI n)), (6, .ref 42), (7, .ref 40)], [.int (S.1 40 3)], S)) rfl ?_
  refine x_top (v' := nI lo2) p3 ?_
  refine x_ifN_eq 57 rfl rfl (by omega) (fun h48 => ?_) (fun hn => absurd hz2 hn)
  refine run_ok 2 (c' := (62, [(0, .ref 0), (1, .int (nI 2)), (2, .int (nI a)), (3, .int (nI 1)), (4, .int (nI b)), (5, .int (nI n)), (6, .ref 42), (7, .ref 40)], [.int (S.1 42 1)], S)) rfl ?_
  refine x_top (v' := nI fm) g1 ?_
  refine run_ok 2 (c' := (67, [(0, .ref 0), (1, .int (nI 2)), (2, .int (nI a)), (3, .int (nI 1)), (4, .int (nI b)), (5, .int (nI n)), (6, .ref 42), (7, .ref 40)], [.int (S.1 40 1), .int (nI fm)], S)) rfl ?_
  refine x_top (v' := nI fm2) p1 ?_
  refine x_icmpN_eq 76 rfl rfl (by omega) (by omega) (fun h67 => ?_) (fun hn => absurd hst hn)
  refine run_ok 3 (c' := (81, [(0, .ref 0), (1, .int (nI 2)), (2, .int (nI a)), (3, .int (nI 1)), (4, .int (nI b)), (5, .int (nI n)), (6, .ref 42), (7, .ref 40)], [.int (nI n), .int (nI a), .ref 42], S)) rfl ?_
  refine x_callV [.int (nI a), .int (nI n)] rfl cv_H_hasItems.1 lk_6_265 cv_H_hasItems.2.1 cv_H_hasItems.2.2.1 rfl cv_H_hasItems.2.2.2.1 rfl rfl (Nat.le_of_ble_eq_true rfl) (by decide) cv_H_hasItems.2.2.2.2 (c_hasItems2 S lo fm sz hH (nI a) (nI n)) ?_
  rintro r x ⟨hr, hu⟩
  rw [hr, hu]
  clear hr hu r x
  refine x_ifB_eq 99 rfl rfl (fun hn => absurd hn (fun z => z (hasI_t ha hs60))) (fun h84 => ?_)
  refine run_ok 3 (c' := (93, [(0, .ref 0), (1, .int (nI 2)), (2, .int (nI a)), (3, .int (nI 1)), (4, .int (nI b)), (5, .int (nI n)), (6, .ref 42), (7, .ref 40)], [.int (nI n), .int (nI b), .ref 40], S)) rfl ?_
  refine x_callV [.int (nI b), .int (nI n)] rfl cv_H_hasItems.1 lk_6_265 cv_H_hasItems.2.1 cv_H_hasItems.2.2.1 rfl cv_H_hasItems.2.2.2.1 rfl rfl (Nat.le_of_ble_eq_true rfl) (by decide) cv_H_hasItems.2.2.2.2 (c_hasItems1 S lo2 fm2 sz2 hH2 (nI b) (nI n)) ?_
  rintro r x ⟨hr, hu⟩
  rw [hr, hu]
  clear hr hu r x
  refine x_ifB_ne 105 rfl rfl (fun h96 => ?_) (fun hn => absurd (hasI_t hb ps60) hn)
  refine run_ok 7 (c' := (120, [(0, .ref 0), (1, .int (nI 2)), (2, .int (nI a)), (3, .int (nI 1)), (4, .int (nI b)), (5, .int (nI n)), (6, .ref 42), (7, .ref 40)], [.int (nI n), .int (nI b), .ref 41, .int (nI a), .ref 43], S)) rfl ?_
  refine x_copyN rfl lk_6_268 rfl rfl (by decide) (by decide) (by omega) (by omega) (Nat.le_of_ble_eq_true rfl) (by decide) ?_
  refine run_ok 1 (c' := (124, [(0, .ref 0), (1, .int (nI 2)), (2, .int (nI a)), (3, .int (nI 1)), (4, .int (nI b)), (5, .int (nI n)), (6, .ref 42), (7, .ref 40)], [.int (nI 1)], (rwr S 41 (va_cpy (S.1 43) (S.1 41) a b n)))) rfl ?_
  exact x_ret (r := some (.int (nI 1))) rfl rfl trivial ⟨rfl, rfl⟩ rfl

set_option maxHeartbeats 2000000 in
theorem c_copy_null22 (S : ST) (lo fm sz : Nat) (hH : HR 42 lo fm sz S) (a b n : Int32) (hnl : ¬ (lo = 0 ∧ lo = 0)) : EX me_N_copy 2 [.ref 0, .int (nI 2), .int a, .int (nI 2), .int b, .int n] S (fun r u => r = some (.int ((-10) - nI 1)) ∧ u = pt S 0 10 (nI 1)) := by
  refine EX.of mok_N_copy (Nat.le_of_ble_eq_true rfl) ?_
  obtain ⟨g3, g1, g2, hl1, hf2, hs60⟩ := id hH
  refine run_ok 2 (c' := (2, [(0, .ref 0), (1, .int (nI 2)), (2, .int a), (3, .int (nI 2)), (4, .int b), (5, .int n)], [.int (nI 4), .int (nI 2)], S)) rfl ?_
  refine x_callS [.int (nI 2), .int (nI 4)] rfl cs_N_isBelow.1 lk_6_73 cs_N_isBelow.2.1 rfl rfl (Nat.le_of_ble_eq_true rfl) (by decide) cs_N_isBelow.2.2 (c_isBelow S (nI 2) (nI 4)) ?_
  rintro r u ⟨hr, hu⟩
  rw [hr, hu]
  clear hr hu r u
  refine x_ifB_eq 16 rfl rfl (fun hn => absurd hn (fun z => z (inr_t (by decide) (by decide)))) (fun h5 => ?_)
  refine run_ok 2 (c' := (10, [(0, .ref 0), (1, .int (nI 2)), (2, .int a), (3, .int (nI 2)), (4, .int b), (5, .int n)], [.int (nI 4), .int (nI 2)], S)) rfl ?_
  refine x_callS [.int (nI 2), .int (nI 4)] rfl cs_N_isBelow.1 lk_6_73 cs_N_isBelow.2.1 rfl rfl (Nat.le_of_ble_eq_true rfl) (by decide) cs_N_isBelow.2.2 (c_isBelow S (nI 2) (nI 4)) ?_
  rintro r u ⟨hr, hu⟩
  rw [hr, hu]
  clear hr hu r u
  refine x_ifB_ne 19 rfl rfl (fun h13 => ?_) (fun hn => absurd (inr_t (by decide) (by decide)) hn)
  refine run_ok 3 (c' := (24, [(0, .ref 0), (1, .int (nI 2)), (2, .int a), (3, .int (nI 2)), (4, .int b), (5, .int n)], [.int (nI 2), .ref 37], S)) rfl ?_
  refine x_aald (t := 42) rfl rfl (vp_in_nI (by decide) (by decide)) (by decide) ?_
  refine run_ok 4 (c' := (32, [(0, .ref 0), (1, .int (nI 2)), (2, .int a), (3, .int (nI 2)), (4, .int b), (5, .int n), (6, .ref 42)], [.int (nI 2), .ref 37], S)) rfl ?_
  refine x_aald (t := 42) rfl rfl (vp_in_nI (by decide) (by decide)) (by decide) ?_
  refine run_ok 3 (c' := (40, [(0, .ref 0), (1, .int (nI 2)), (2, .int a), (3, .int (nI 2)), (4, .int b), (5, .int n), (6, .ref 42), (7, .ref 42)], [.int (S.1 42 3)], S)) rfl ?_
  refine x_top (v' := nI lo) g3 ?_
  refine x_ifN_ne 51 rfl rfl (by omega) (fun h40 => ?_) (fun h40 => ?_)
  · refine run_ok 2 (c' := (53, [(0, .ref 0), (1, .int (nI 2)), (2, .int a), (3, .int (nI 2)), (4, .int b), (5, .int n), (6, .ref 42), (7, .ref 42)], [.int (nI 1), .ref 0], S)) rfl ?_
    refine x_callV [.int (nI 1)] rfl cv_N_find.1 lk_6_134 cv_N_find.2.1 cv_N_find.2.2.1 rfl cv_N_find.2.2.2.1 rfl rfl (Nat.le_of_ble_eq_true rfl) (by decide) cv_N_find.2.2.2.2 (c_find S (1)) ?_
    rintro r x ⟨hr, hu⟩
    rw [hr, hu]
    clear hr hu r x
    exact x_ret (r := some (.int ((-10) - nI 1))) rfl rfl trivial ⟨rfl, rfl⟩ rfl
  · refine run_ok 2 (c' := (48, [(0, .ref 0), (1, .int (nI 2)), (2, .int a), (3, .int (nI 2)), (4, .int b), (5, .int n), (6, .ref 42), (7, .ref 42)], [.int (S.1 42 3)], S)) rfl ?_
    refine x_top (v' := nI lo) g3 ?_
    refine x_ifN_eq 57 rfl rfl (by omega) (fun h48 => ?_) (fun h48 => ?_)
    · exact absurd hnl (by omega)
    · refine run_ok 2 (c' := (53, [(0, .ref 0), (1, .int (nI 2)), (2, .int a), (3, .int (nI 2)), (4, .int b), (5, .int n), (6, .ref 42), (7, .ref 42)], [.int (nI 1), .ref 0], S)) rfl ?_
      refine x_callV [.int (nI 1)] rfl cv_N_find.1 lk_6_134 cv_N_find.2.1 cv_N_find.2.2.1 rfl cv_N_find.2.2.2.1 rfl rfl (Nat.le_of_ble_eq_true rfl) (by decide) cv_N_find.2.2.2.2 (c_find S (1)) ?_
      rintro r x ⟨hr, hu⟩
      rw [hr, hu]
      clear hr hu r x
      exact x_ret (r := some (.int ((-10) - nI 1))) rfl rfl trivial ⟨rfl, rfl⟩ rfl

set_option maxHeartbeats 2000000 in
theorem c_copy_index22 (S : ST) (lo fm sz : Nat) (hH : HR 42 lo fm sz S) (a b n : Int32) (hz1 : lo = 0) (hz2 : lo = 0) (hix : ¬ (hasI sz a n ∧ hasI sz b n)) : EX me_N_copy 2 [.ref 0, .int (nI 2), .int a, .int (nI 2), .int b, .int n] S (fun r u => r = some (.int ((-10) - nI 2)) ∧ u = pt S 0 10 (nI 2)) := by
  refine EX.of mok_N_copy (Nat.le_of_ble_eq_true rfl) ?_
  obtain ⟨g3, g1, g2, hl1, hf2, hs60⟩ := id hH
  have hst : fm = fm := rfl
  refine run_ok 2 (c' := (2, [(0, .ref 0), (1, .int (nI 2)), (2, .int a), (3, .int (nI 2)), (4, .int b), (5, .int n)], [.int (nI 4), .int (nI 2)], S)) rfl ?_
  refine x_callS [.int (nI 2), .int (nI 4)] rfl cs_N_isBelow.1 lk_6_73 cs_N_isBelow.2.1 rfl rfl (Nat.le_of_ble_eq_true rfl) (by decide) cs_N_isBelow.2.2 (c_isBelow S (nI 2) (nI 4)) ?_
  rintro r u ⟨hr, hu⟩
  rw [hr, hu]
  clear hr hu r u
  refine x_ifB_eq 16 rfl rfl (fun hn => absurd hn (fun z => z (inr_t (by decide) (by decide)))) (fun h5 => ?_)
  refine run_ok 2 (c' := (10, [(0, .ref 0), (1, .int (nI 2)), (2, .int a), (3, .int (nI 2)), (4, .int b), (5, .int n)], [.int (nI 4), .int (nI 2)], S)) rfl ?_
  refine x_callS [.int (nI 2), .int (nI 4)] rfl cs_N_isBelow.1 lk_6_73 cs_N_isBelow.2.1 rfl rfl (Nat.le_of_ble_eq_true rfl) (by decide) cs_N_isBelow.2.2 (c_isBelow S (nI 2) (nI 4)) ?_
  rintro r u ⟨hr, hu⟩
  rw [hr, hu]
  clear hr hu r u
  refine x_ifB_ne 19 rfl rfl (fun h13 => ?_) (fun hn => absurd (inr_t (by decide) (by decide)) hn)
  refine run_ok 3 (c' := (24, [(0, .ref 0), (1, .int (nI 2)), (2, .int a), (3, .int (nI 2)), (4, .int b), (5, .int n)], [.int (nI 2), .ref 37], S)) rfl ?_
  refine x_aald (t := 42) rfl rfl (vp_in_nI (by decide) (by decide)) (by decide) ?_
  refine run_ok 4 (c' := (32, [(0, .ref 0), (1, .int (nI 2)), (2, .int a), (3, .int (nI 2)), (4, .int b), (5, .int n), (6, .ref 42)], [.int (nI 2), .ref 37], S)) rfl ?_
  refine x_aald (t := 42) rfl rfl (vp_in_nI (by decide) (by decide)) (by decide) ?_
  refine run_ok 3 (c' := (40, [(0, .ref 0), (1, .int (nI 2)), (2, .int a), (3, .int (nI 2)), (4, .int b), (5, .int n), (6, .ref 42), (7, .ref 42)], [.int (S.1 42 3)], S)) rfl ?_
  refine x_top (v' := nI lo) g3 ?_
  refine x_ifN_ne 51 rfl rfl (by omega) (fun hn => absurd hz1 hn) (fun h40 => ?_)
  refine run_ok 2 (c' := (48, [(0, .ref 0), (1, .int (nI 2)), (2, .int a), (3, .int (nI 2)), (4, .int b), (5, .int n), (6, .ref 42), (7, .ref 42)], [.int (S.1 42 3)], S)) rfl ?_
  refine x_top (v' := nI lo) g3 ?_
  refine x_ifN_eq 57 rfl rfl (by omega) (fun h48 => ?_) (fun hn => absurd hz2 hn)
  refine run_ok 2 (c' := (62, [(0, .ref 0), (1, .int (nI 2)), (2, .int a), (3, .int (nI 2)), (4, .int b), (5, .int n), (6, .ref 42), (7, .ref 42)], [.int (S.1 42 1)], S)) rfl ?_
  refine x_top (v' := nI fm) g1 ?_
  refine run_ok 2 (c' := (67, [(0, .ref 0), (1, .int (nI 2)), (2, .int a), (3, .int (nI 2)), (4, .int b), (5, .int n), (6, .ref 42), (7, .ref 42)], [.int (S.1 42 1), .int (nI fm)], S)) rfl ?_
  refine x_top (v' := nI fm) g1 ?_
  refine x_icmpN_eq 76 rfl rfl (by omega) (by omega) (fun h67 => ?_) (fun hn => absurd hst hn)
  refine run_ok 3 (c' := (81, [(0, .ref 0), (1, .int (nI 2)), (2, .int a), (3, .int (nI 2)), (4, .int b), (5, .int n), (6, .ref 42), (7, .ref 42)], [.int n, .int a, .ref 42], S)) rfl ?_
  refine x_callV [.int a, .int n] rfl cv_H_hasItems.1 lk_6_265 cv_H_hasItems.2.1 cv_H_hasItems.2.2.1 rfl cv_H_hasItems.2.2.2.1 rfl rfl (Nat.le_of_ble_eq_true rfl) (by decide) cv_H_hasItems.2.2.2.2 (c_hasItems2 S lo fm sz hH (a) (n)) ?_
  rintro r x ⟨hr, hu⟩
  rw [hr, hu]
  clear hr hu r x
  refine x_ifB_eq 99 rfl rfl (fun h84 => ?_) (fun h84 => ?_)
  · refine run_ok 2 (c' := (101, [(0, .ref 0), (1, .int (nI 2)), (2, .int a), (3, .int (nI 2)), (4, .int b), (5, .int n), (6, .ref 42), (7, .ref 42)], [.int (nI 2), .ref 0], S)) rfl ?_
    refine x_callV [.int (nI 2)] rfl cv_N_find.1 lk_6_134 cv_N_find.2.1 cv_N_find.2.2.1 rfl cv_N_find.2.2.2.1 rfl rfl (Nat.le_of_ble_eq_true rfl) (by decide) cv_N_find.2.2.2.2 (c_find S (2)) ?_
    rintro r x ⟨hr, hu⟩
    rw [hr, hu]
    clear hr hu r x
    exact x_ret (r := some (.int ((-10) - nI 2))) rfl rfl trivial ⟨rfl, rfl⟩ rfl
  · refine run_ok 3 (c' := (93, [(0, .ref 0), (1, .int (nI 2)), (2, .int a), (3, .int (nI 2)), (4, .int b), (5, .int n), (6, .ref 42), (7, .ref 42)], [.int n, .int b, .ref 42], S)) rfl ?_
    refine x_callV [.int b, .int n] rfl cv_H_hasItems.1 lk_6_265 cv_H_hasItems.2.1 cv_H_hasItems.2.2.1 rfl cv_H_hasItems.2.2.2.1 rfl rfl (Nat.le_of_ble_eq_true rfl) (by decide) cv_H_hasItems.2.2.2.2 (c_hasItems2 S lo fm sz hH (b) (n)) ?_
    rintro r x ⟨hr, hu⟩
    rw [hr, hu]
    clear hr hu r x
    refine x_ifB_ne 105 rfl rfl (fun h96 => ?_) (fun h96 => ?_)
    · exact absurd ⟨h84, h96⟩ hix
    · refine run_ok 2 (c' := (101, [(0, .ref 0), (1, .int (nI 2)), (2, .int a), (3, .int (nI 2)), (4, .int b), (5, .int n), (6, .ref 42), (7, .ref 42)], [.int (nI 2), .ref 0], S)) rfl ?_
      refine x_callV [.int (nI 2)] rfl cv_N_find.1 lk_6_134 cv_N_find.2.1 cv_N_find.2.2.1 rfl cv_N_find.2.2.2.1 rfl rfl (Nat.le_of_ble_eq_true rfl) (by decide) cv_N_find.2.2.2.2 (c_find S (2)) ?_
      rintro r x ⟨hr, hu⟩
      rw [hr, hu]
      clear hr hu r x
      exact x_ret (r := some (.int ((-10) - nI 2))) rfl rfl trivial ⟨rfl, rfl⟩ rfl

set_option maxHeartbeats 2000000 in
theorem c_copy_ok22 (S : ST) (lo fm sz : Nat) (hH : HR 42 lo fm sz S) (a b n : Nat) (hz1 : lo = 0) (hz2 : lo = 0) (ha : a + n ≤ sz) (hb : b + n ≤ sz) : EX me_N_copy 2 [.ref 0, .int (nI 2), .int (nI a), .int (nI 2), .int (nI b), .int (nI n)] S (fun r u => r = some (.int 1) ∧ u = rwr S 43 (va_cpy (S.1 43) (S.1 43) a b n)) := by
  refine EX.of mok_N_copy (Nat.le_of_ble_eq_true rfl) ?_
  obtain ⟨g3, g1, g2, hl1, hf2, hs60⟩ := id hH
  have hst : fm = fm := rfl
  refine run_ok 2 (c' := (2, [(0, .ref 0), (1, .int (nI 2)), (2, .int (nI a)), (3, .int (nI 2)), (4, .int (nI b)), (5, .int (nI n))], [.int (nI 4), .int (nI 2)], S)) rfl ?_
  refine x_callS [.int (nI 2), .int (nI 4)] rfl cs_N_isBelow.1 lk_6_73 cs_N_isBelow.2.1 rfl rfl (Nat.le_of_ble_eq_true rfl) (by decide) cs_N_isBelow.2.2 (c_isBelow S (nI 2) (nI 4)) ?_
  rintro r u ⟨hr, hu⟩
  rw [hr, hu]
  clear hr hu r u
  refine x_ifB_eq 16 rfl rfl (fun hn => absurd hn (fun z => z (inr_t (by decide) (by decide)))) (fun h5 => ?_)
  refine run_ok 2 (c' := (10, [(0, .ref 0), (1, .int (nI 2)), (2, .int (nI a)), (3, .int (nI 2)), (4, .int (nI b)), (5, .int (nI n))], [.int (nI 4), .int (nI 2)], S)) rfl ?_
  refine x_callS [.int (nI 2), .int (nI 4)] rfl cs_N_isBelow.1 lk_6_73 cs_N_isBelow.2.1 rfl rfl (Nat.le_of_ble_eq_true rfl) (by decide) cs_N_isBelow.2.2 (c_isBelow S (nI 2) (nI 4)) ?_
  rintro r u ⟨hr, hu⟩
  rw [hr, hu]
  clear hr hu r u
  refine x_ifB_ne 19 rfl rfl (fun h13 => ?_) (fun hn => absurd (inr_t (by decide) (by decide)) hn)
  refine run_ok 3 (c' := (24, [(0, .ref 0), (1, .int (nI 2)), (2, .int (nI a)), (3, .int (nI 2)), (4, .int (nI b)), (5, .int (nI n))], [.int (nI 2), .ref 37], S)) rfl ?_
  refine x_aald (t := 42) rfl rfl (vp_in_nI (by decide) (by decide)) (by decide) ?_
  refine run_ok 4 (c' := (32, [(0, .ref 0), (1, .int (nI 2)), (2, .int (nI a)), (3, .int (nI 2)), (4, .int (nI b)), (5, .int (nI n)), (6, .ref 42)], [.int (nI 2), .ref 37], S)) rfl ?_
  refine x_aald (t := 42) rfl rfl (vp_in_nI (by decide) (by decide)) (by decide) ?_
  refine run_ok 3 (c' := (40, [(0, .ref 0), (1, .int (nI 2)), (2, .int (nI a)), (3, .int (nI 2)), (4, .int (nI b)), (5, .int (nI n)), (6, .ref 42), (7, .ref 42)], [.int (S.1 42 3)], S)) rfl ?_
  refine x_top (v' := nI lo) g3 ?_
  refine x_ifN_ne 51 rfl rfl (by omega) (fun hn => absurd hz1 hn) (fun h40 => ?_)
  refine run_ok 2 (c' := (48, [(0, .ref 0), (1, .int (nI 2)), (2, .int (nI a)), (3, .int (nI 2)), (4, .int (nI b)), (5, .int (nI n)), (6, .ref 42), (7, .ref 42)], [.int (S.1 42 3)], S)) rfl ?_
  refine x_top (v' := nI lo) g3 ?_
  refine x_ifN_eq 57 rfl rfl (by omega) (fun h48 => ?_) (fun hn => absurd hz2 hn)
  refine run_ok 2 (c' := (62, [(0, .ref 0), (1, .int (nI 2)), (2, .int (nI a)), (3, .int (nI 2)), (4, .int (nI b)), (5, .int (nI n)), (6, .ref 42), (7, .ref 42)], [.int (S.1 42 1)], S)) rfl ?_
  refine x_top (v' := nI fm) g1 ?_
  refine run_ok 2 (c' := (67, [(0, .ref 0), (1, .int (nI 2)), (2, .int (nI a)), (3, .int (nI 2)), (4, .int (nI b)), (5, .int (nI n)), (6, .ref 42), (7, .ref 42)], [.int (S.1 42 1), .int (nI fm)], S)) rfl ?_
  refine x_top (v' := nI fm) g1 ?_
  refine x_icmpN_eq 76 rfl rfl (by omega) (by omega) (fun h67 => ?_) (fun hn => absurd hst hn)
  refine run_ok 3 (c' := (81, [(0, .ref 0), (1, .int (nI 2)), (2, .int (nI a)), (3, .int (nI 2)), (4, .int (nI b)), (5, .int (nI n)), (6, .ref 42), (7, .ref 42)], [.int (nI n), .int (nI a), .ref 42], S)) rfl ?_
  refine x_callV [.int (nI a), .int (nI n)] rfl cv_H_hasItems.1 lk_6_265 cv_H_hasItems.2.1 cv_H_hasItems.2.2.1 rfl cv_H_hasItems.2.2.2.1 rfl rfl (Nat.le_of_ble_eq_true rfl) (by decide) cv_H_hasItems.2.2.2.2 (c_hasItems2 S lo fm sz hH (nI a) (nI n)) ?_
  rintro r x ⟨hr, hu⟩
  rw [hr, hu]
  clear hr hu r x
  refine x_ifB_eq 99 rfl rfl (fun hn => absurd hn (fun z => z (hasI_t ha hs60))) (fun h84 => ?_)
  refine run_ok 3 (c' := (93, [(0, .ref 0), (1, .int (nI 2)), (2, .int (nI a)), (3, .int (nI 2)), (4, .int (nI b)), (5, .int (nI n)), (6, .ref 42), (7, .ref 42)], [.int (nI n), .int (nI b), .ref 42], S)) rfl ?_
  refine x_callV [.int (nI b), .int (nI n)] rfl cv_H_hasItems.1 lk_6_265 cv_H_hasItems.2.1 cv_H_hasItems.2.2.1 rfl cv_H_hasItems.2.2.2.1 rfl rfl (Nat.le_of_ble_eq_true rfl) (by decide) cv_H_hasItems.2.2.2.2 (c_hasItems2 S lo fm sz hH (nI b) (nI n)) ?_
  rintro r x ⟨hr, hu⟩
  rw [hr, hu]
  clear hr hu r x
  refine x_ifB_ne 105 rfl rfl (fun h96 => ?_) (fun hn => absurd (hasI_t hb hs60) hn)
  refine run_ok 7 (c' := (120, [(0, .ref 0), (1, .int (nI 2)), (2, .int (nI a)), (3, .int (nI 2)), (4, .int (nI b)), (5, .int (nI n)), (6, .ref 42), (7, .ref 42)], [.int (nI n), .int (nI b), .ref 43, .int (nI a), .ref 43], S)) rfl ?_
  refine x_copyN rfl lk_6_268 rfl rfl (by decide) (by decide) (by omega) (by omega) (Nat.le_of_ble_eq_true rfl) (by decide) ?_
  refine run_ok 1 (c' := (124, [(0, .ref 0), (1, .int (nI 2)), (2, .int (nI a)), (3, .int (nI 2)), (4, .int (nI b)), (5, .int (nI n)), (6, .ref 42), (7, .ref 42)], [.int (nI 1)], (rwr S 43 (va_cpy (S.1 43) (S.1 43) a b n)))) rfl ?_
  exact x_ret (r := some (.int (nI 1))) rfl rfl trivial ⟨rfl, rfl⟩ rfl

set_option maxHeartbeats 2000000 in
theorem c_copy_null23 (S : ST) (lo fm sz : Nat) (hH : HR 42 lo fm sz S) (lo2 fm2 sz2 : Nat) (hH2 : HR 44 lo2 fm2 sz2 S) (a b n : Int32) (hnl : ¬ (lo = 0 ∧ lo2 = 0)) : EX me_N_copy 2 [.ref 0, .int (nI 2), .int a, .int (nI 3), .int b, .int n] S (fun r u => r = some (.int ((-10) - nI 1)) ∧ u = pt S 0 10 (nI 1)) := by
  refine EX.of mok_N_copy (Nat.le_of_ble_eq_true rfl) ?_
  obtain ⟨g3, g1, g2, hl1, hf2, hs60⟩ := id hH
  obtain ⟨p3, p1, p2, pl1, pf2, ps60⟩ := id hH2
  refine run_ok 2 (c' := (2, [(0, .ref 0), (1, .int (nI 2)), (2, .int a), (3, .int (nI 3)), (4, .int b), (5, .int n)], [.int (nI 4), .int (nI 2)], S)) rfl ?_
  refine x_callS [.int (nI 2), .int (nI 4)] rfl cs_N_isBelow.1 lk_6_73 cs_N_isBelow.2.1 rfl rfl (Nat.le_of_ble_eq_true rfl) (by decide) cs_N_isBelow.2.2 (c_isBelow S (nI 2) (nI 4)) ?_
  rintro r u ⟨hr, hu⟩
  rw [hr, hu]
  clear hr hu r u
  refine x_ifB_eq 16 rfl rfl (fun hn => absurd hn (fun z => z (inr_t (by decide) (by decide)))) (fun h5 => ?_)
  refine run_ok 2 (c' := (10, [(0, .ref 0), (1, .int (nI 2)), (2, .int a), (3, .int (nI 3)), (4, .int b), (5, .int n)], [.int (nI 4), .int (nI 3)], S)) rfl ?_
  refine x_callS [.int (nI 3), .int (nI 4)] rfl cs_N_isBelow.1 lk_6_73 cs_N_isBelow.2.1 rfl rfl (Nat.le_of_ble_eq_true rfl) (by decide) cs_N_isBelow.2.2 (c_isBelow S (nI 3) (nI 4)) ?_
  rintro r u ⟨hr, hu⟩
  rw [hr, hu]
  clear hr hu r u
  refine x_ifB_ne 19 rfl rfl (fun h13 => ?_) (fun hn => absurd (inr_t (by decide) (by decide)) hn)
  refine run_ok 3 (c' := (24, [(0, .ref 0), (1, .int (nI 2)), (2, .int a), (3, .int (nI 3)), (4, .int b), (5, .int n)], [.int (nI 2), .ref 37], S)) rfl ?_
  refine x_aald (t := 42) rfl rfl (vp_in_nI (by decide) (by decide)) (by decide) ?_
  refine run_ok 4 (c' := (32, [(0, .ref 0), (1, .int (nI 2)), (2, .int a), (3, .int (nI 3)), (4, .int b), (5, .int n), (6, .ref 42)], [.int (nI 3), .ref 37], S)) rfl ?_
  refine x_aald (t := 44) rfl rfl (vp_in_nI (by decide) (by decide)) (by decide) ?_
  refine run_ok 3 (c' := (40, [(0, .ref 0), (1, .int (nI 2)), (2, .int a), (3, .int (nI 3)), (4, .int b), (5, .int n), (6, .ref 42), (7, .ref 44)], [.int (S.1 42 3)], S)) rfl ?_
  refine x_top (v' := nI lo) g3 ?_
  refine x_ifN_ne 51 rfl rfl (by omega) (fun h40 => ?_) (fun h40 => ?_)
  · refine run_ok 2 (c' := (53, [(0, .ref 0), (1, .int (nI 2)), (2, .int a), (3, .int (nI 3)), (4, .int b), (5, .int n), (6, .ref 42), (7, .ref 44)], [.int (nI 1), .ref 0], S)) rfl ?_
    refine x_callV [.int (nI 1)] rfl cv_N_find.1 lk_6_134 cv_N_find.2.1 cv_N_find.2.2.1 rfl cv_N_find.2.2.2.1 rfl rfl (Nat.le_of_ble_eq_true rfl) (by decide) cv_N_find.2.2.2.2 (c_find S (1)) ?_
    rintro r x ⟨hr, hu⟩
    rw [hr, hu]
    clear hr hu r x
    exact x_ret (r := some (.int ((-10) - nI 1))) rfl rfl trivial ⟨rfl, rfl⟩ rfl
  · refine run_ok 2 (c' := (48, [(0, .ref 0), (1, .int (nI 2)), (2, .int a), (3, .int (nI 3)), (4, .int b), (5, .int n), (6, .ref 42), (7, .ref 44)], [.int (S.1 44 3)], S)) rfl ?_
    refine x_top (v' := nI lo2) p3 ?_
    refine x_ifN_eq 57 rfl rfl (by omega) (fun h48 => ?_) (fun h48 => ?_)
    · exact absurd hnl (by omega)
    · refine run_ok 2 (c' := (53, [(0, .ref 0), (1, .int (nI 2)), (2, .int a), (3, .int (nI 3)), (4, .int b), (5, .int n), (6, .ref 42), (7, .ref 44)], [.int (nI 1), .ref 0], S)) rfl ?_
      refine x_callV [.int (nI 1)] rfl cv_N_find.1 lk_6_134 cv_N_find.2.1 cv_N_find.2.2.1 rfl cv_N_find.2.2.2.1 rfl rfl (Nat.le_of_ble_eq_true rfl) (by decide) cv_N_find.2.2.2.2 (c_find S (1)) ?_
      rintro r x ⟨hr, hu⟩
      rw [hr, hu]
      clear hr hu r x
      exact x_ret (r := some (.int ((-10) - nI 1))) rfl rfl trivial ⟨rfl, rfl⟩ rfl

set_option maxHeartbeats 2000000 in
theorem c_copy_store23 (S : ST) (lo fm sz : Nat) (hH : HR 42 lo fm sz S) (lo2 fm2 sz2 : Nat) (hH2 : HR 44 lo2 fm2 sz2 S) (a b n : Int32) (hz1 : lo = 0) (hz2 : lo2 = 0) (hst : ¬ fm = fm2) : EX me_N_copy 2 [.ref 0, .int (nI 2), .int a, .int (nI 3), .int b, .int n] S (fun r u => r = some (.int ((-10) - nI 4)) ∧ u = pt S 0 10 (nI 4)) := by
  refine EX.of mok_N_copy (Nat.le_of_ble_eq_true rfl) ?_
  obtain ⟨g3, g1, g2, hl1, hf2, hs60⟩ := id hH
  obtain ⟨p3, p1, p2, pl1, pf2, ps60⟩ := id hH2
  refine run_ok 2 (c' := (2, [(0, .ref 0), (1, .int (nI 2)), (2, .int a), (3, .int (nI 3)), (4, .int b), (5, .int n)], [.int (nI 4), .int (nI 2)], S)) rfl ?_
  refine x_callS [.int (nI 2), .int (nI 4)] rfl cs_N_isBelow.1 lk_6_73 cs_N_isBelow.2.1 rfl rfl (Nat.le_of_ble_eq_true rfl) (by decide) cs_N_isBelow.2.2 (c_isBelow S (nI 2) (nI 4)) ?_
  rintro r u ⟨hr, hu⟩
  rw [hr, hu]
  clear hr hu r u
  refine x_ifB_eq 16 rfl rfl (fun hn => absurd hn (fun z => z (inr_t (by decide) (by decide)))) (fun h5 => ?_)
  refine run_ok 2 (c' := (10, [(0, .ref 0), (1, .int (nI 2)), (2, .int a), (3, .int (nI 3)), (4, .int b), (5, .int n)], [.int (nI 4), .int (nI 3)], S)) rfl ?_
  refine x_callS [.int (nI 3), .int (nI 4)] rfl cs_N_isBelow.1 lk_6_73 cs_N_isBelow.2.1 rfl rfl (Nat.le_of_ble_eq_true rfl) (by decide) cs_N_isBelow.2.2 (c_isBelow S (nI 3) (nI 4)) ?_
  rintro r u ⟨hr, hu⟩
  rw [hr, hu]
  clear hr hu r u
  refine x_ifB_ne 19 rfl rfl (fun h13 => ?_) (fun hn => absurd (inr_t (by decide) (by decide)) hn)
  refine run_ok 3 (c' := (24, [(0, .ref 0), (1, .int (nI 2)), (2, .int a), (3, .int (nI 3)), (4, .int b), (5, .int n)], [.int (nI 2), .ref 37], S)) rfl ?_
  refine x_aald (t := 42) rfl rfl (vp_in_nI (by decide) (by decide)) (by decide) ?_
  refine run_ok 4 (c' := (32, [(0, .ref 0), (1, .int (nI 2)), (2, .int a), (3, .int (nI 3)), (4, .int b), (5, .int n), (6, .ref 42)], [.int (nI 3), .ref 37], S)) rfl ?_
  refine x_aald (t := 44) rfl rfl (vp_in_nI (by decide) (by decide)) (by decide) ?_
  refine run_ok 3 (c' := (40, [(0, .ref 0), (1, .int (nI 2)), (2, .int a), (3, .int (nI 3)), (4, .int b), (5, .int n), (6, .ref 42), (7, .ref 44)], [.int (S.1 42 3)], S)) rfl ?_
  refine x_top (v' := nI lo) g3 ?_
  refine x_ifN_ne 51 rfl rfl (by omega) (fun hn => absurd hz1 hn) (fun h40 => ?_)
  refine run_ok 2 (c' := (48, [(0, .ref 0), (1, .int (nI 2)), (2, .int a), (3, .int (nI 3)), (4, .int b), (5, .int n), (6, .ref 42), (7, .ref 44)], [.int (S.1 44 3)], S)) rfl ?_
  refine x_top (v' := nI lo2) p3 ?_
  refine x_ifN_eq 57 rfl rfl (by omega) (fun h48 => ?_) (fun hn => absurd hz2 hn)
  refine run_ok 2 (c' := (62, [(0, .ref 0), (1, .int (nI 2)), (2, .int a), (3, .int (nI 3)), (4, .int b), (5, .int n), (6, .ref 42), (7, .ref 44)], [.int (S.1 42 1)], S)) rfl ?_
  refine x_top (v' := nI fm) g1 ?_
  refine run_ok 2 (c' := (67, [(0, .ref 0), (1, .int (nI 2)), (2, .int a), (3, .int (nI 3)), (4, .int b), (5, .int n), (6, .ref 42), (7, .ref 44)], [.int (S.1 44 1), .int (nI fm)], S)) rfl ?_
  refine x_top (v' := nI fm2) p1 ?_
  refine x_icmpN_eq 76 rfl rfl (by omega) (by omega) (fun hn => absurd hn hst) (fun h67 => ?_)
  refine run_ok 2 (c' := (72, [(0, .ref 0), (1, .int (nI 2)), (2, .int a), (3, .int (nI 3)), (4, .int b), (5, .int n), (6, .ref 42), (7, .ref 44)], [.int (nI 4), .ref 0], S)) rfl ?_
  refine x_callV [.int (nI 4)] rfl cv_N_find.1 lk_6_134 cv_N_find.2.1 cv_N_find.2.2.1 rfl cv_N_find.2.2.2.1 rfl rfl (Nat.le_of_ble_eq_true rfl) (by decide) cv_N_find.2.2.2.2 (c_find S (4)) ?_
  rintro r x ⟨hr, hu⟩
  rw [hr, hu]
  clear hr hu r x
  exact x_ret (r := some (.int ((-10) - nI 4))) rfl rfl trivial ⟨rfl, rfl⟩ rfl

set_option maxHeartbeats 2000000 in
theorem c_copy_index23 (S : ST) (lo fm sz : Nat) (hH : HR 42 lo fm sz S) (lo2 fm2 sz2 : Nat) (hH2 : HR 44 lo2 fm2 sz2 S) (a b n : Int32) (hz1 : lo = 0) (hz2 : lo2 = 0) (hst : fm = fm2) (hix : ¬ (hasI sz a n ∧ hasI sz2 b n)) : EX me_N_copy 2 [.ref 0, .int (nI 2), .int a, .int (nI 3), .int b, .int n] S (fun r u => r = some (.int ((-10) - nI 2)) ∧ u = pt S 0 10 (nI 2)) := by
  refine EX.of mok_N_copy (Nat.le_of_ble_eq_true rfl) ?_
  obtain ⟨g3, g1, g2, hl1, hf2, hs60⟩ := id hH
  obtain ⟨p3, p1, p2, pl1, pf2, ps60⟩ := id hH2
  refine run_ok 2 (c' := (2, [(0, .ref 0), (1, .int (nI 2)), (2, .int a), (3, .int (nI 3)), (4, .int b), (5, .int n)], [.int (nI 4), .int (nI 2)], S)) rfl ?_
  refine x_callS [.int (nI 2), .int (nI 4)] rfl cs_N_isBelow.1 lk_6_73 cs_N_isBelow.2.1 rfl rfl (Nat.le_of_ble_eq_true rfl) (by decide) cs_N_isBelow.2.2 (c_isBelow S (nI 2) (nI 4)) ?_
  rintro r u ⟨hr, hu⟩
  rw [hr, hu]
  clear hr hu r u
  refine x_ifB_eq 16 rfl rfl (fun hn => absurd hn (fun z => z (inr_t (by decide) (by decide)))) (fun h5 => ?_)
  refine run_ok 2 (c' := (10, [(0, .ref 0), (1, .int (nI 2)), (2, .int a), (3, .int (nI 3)), (4, .int b), (5, .int n)], [.int (nI 4), .int (nI 3)], S)) rfl ?_
  refine x_callS [.int (nI 3), .int (nI 4)] rfl cs_N_isBelow.1 lk_6_73 cs_N_isBelow.2.1 rfl rfl (Nat.le_of_ble_eq_true rfl) (by decide) cs_N_isBelow.2.2 (c_isBelow S (nI 3) (nI 4)) ?_
  rintro r u ⟨hr, hu⟩
  rw [hr, hu]
  clear hr hu r u
  refine x_ifB_ne 19 rfl rfl (fun h13 => ?_) (fun hn => absurd (inr_t (by decide) (by decide)) hn)
  refine run_ok 3 (c' := (24, [(0, .ref 0), (1, .int (nI 2)), (2, .int a), (3, .int (nI 3)), (4, .int b), (5, .int n)], [.int (nI 2), .ref 37], S)) rfl ?_
  refine x_aald (t := 42) rfl rfl (vp_in_nI (by decide) (by decide)) (by decide) ?_
  refine run_ok 4 (c' := (32, [(0, .ref 0), (1, .int (nI 2)), (2, .int a), (3, .int (nI 3)), (4, .int b), (5, .int n), (6, .ref 42)], [.int (nI 3), .ref 37], S)) rfl ?_
  refine x_aald (t := 44) rfl rfl (vp_in_nI (by decide) (by decide)) (by decide) ?_
  refine run_ok 3 (c' := (40, [(0, .ref 0), (1, .int (nI 2)), (2, .int a), (3, .int (nI 3)), (4, .int b), (5, .int n), (6, .ref 42), (7, .ref 44)], [.int (S.1 42 3)], S)) rfl ?_
  refine x_top (v' := nI lo) g3 ?_
  refine x_ifN_ne 51 rfl rfl (by omega) (fun hn => absurd hz1 hn) (fun h40 => ?_)
  refine run_ok 2 (c' := (48, [(0, .ref 0), (1, .int (nI 2)), (2, .int a), (3, .int (nI 3)), (4, .int b), (5, .int n), (6, .ref 42), (7, .ref 44)], [.int (S.1 44 3)], S)) rfl ?_
  refine x_top (v' := nI lo2) p3 ?_
  refine x_ifN_eq 57 rfl rfl (by omega) (fun h48 => ?_) (fun hn => absurd hz2 hn)
  refine run_ok 2 (c' := (62, [(0, .ref 0), (1, .int (nI 2)), (2, .int a), (3, .int (nI 3)), (4, .int b), (5, .int n), (6, .ref 42), (7, .ref 44)], [.int (S.1 42 1)], S)) rfl ?_
  refine x_top (v' := nI fm) g1 ?_
  refine run_ok 2 (c' := (67, [(0, .ref 0), (1, .int (nI 2)), (2, .int a), (3, .int (nI 3)), (4, .int b), (5, .int n), (6, .ref 42), (7, .ref 44)], [.int (S.1 44 1), .int (nI fm)], S)) rfl ?_
  refine x_top (v' := nI fm2) p1 ?_
  refine x_icmpN_eq 76 rfl rfl (by omega) (by omega) (fun h67 => ?_) (fun hn => absurd hst hn)
  refine run_ok 3 (c' := (81, [(0, .ref 0), (1, .int (nI 2)), (2, .int a), (3, .int (nI 3)), (4, .int b), (5, .int n), (6, .ref 42), (7, .ref 44)], [.int n, .int a, .ref 42], S)) rfl ?_
  refine x_callV [.int a, .int n] rfl cv_H_hasItems.1 lk_6_265 cv_H_hasItems.2.1 cv_H_hasItems.2.2.1 rfl cv_H_hasItems.2.2.2.1 rfl rfl (Nat.le_of_ble_eq_true rfl) (by decide) cv_H_hasItems.2.2.2.2 (c_hasItems2 S lo fm sz hH (a) (n)) ?_
  rintro r x ⟨hr, hu⟩
  rw [hr, hu]
  clear hr hu r x
  refine x_ifB_eq 99 rfl rfl (fun h84 => ?_) (fun h84 => ?_)
  · refine run_ok 2 (c' := (101, [(0, .ref 0), (1, .int (nI 2)), (2, .int a), (3, .int (nI 3)), (4, .int b), (5, .int n), (6, .ref 42), (7, .ref 44)], [.int (nI 2), .ref 0], S)) rfl ?_
    refine x_callV [.int (nI 2)] rfl cv_N_find.1 lk_6_134 cv_N_find.2.1 cv_N_find.2.2.1 rfl cv_N_find.2.2.2.1 rfl rfl (Nat.le_of_ble_eq_true rfl) (by decide) cv_N_find.2.2.2.2 (c_find S (2)) ?_
    rintro r x ⟨hr, hu⟩
    rw [hr, hu]
    clear hr hu r x
    exact x_ret (r := some (.int ((-10) - nI 2))) rfl rfl trivial ⟨rfl, rfl⟩ rfl
  · refine run_ok 3 (c' := (93, [(0, .ref 0), (1, .int (nI 2)), (2, .int a), (3, .int (nI 3)), (4, .int b), (5, .int n), (6, .ref 42), (7, .ref 44)], [.int n, .int b, .ref 44], S)) rfl ?_
    refine x_callV [.int b, .int n] rfl cv_H_hasItems.1 lk_6_265 cv_H_hasItems.2.1 cv_H_hasItems.2.2.1 rfl cv_H_hasItems.2.2.2.1 rfl rfl (Nat.le_of_ble_eq_true rfl) (by decide) cv_H_hasItems.2.2.2.2 (c_hasItems3 S lo2 fm2 sz2 hH2 (b) (n)) ?_
    rintro r x ⟨hr, hu⟩
    rw [hr, hu]
    clear hr hu r x
    refine x_ifB_ne 105 rfl rfl (fun h96 => ?_) (fun h96 => ?_)
    · exact absurd ⟨h84, h96⟩ hix
    · refine run_ok 2 (c' := (101, [(0, .ref 0), (1, .int (nI 2)), (2, .int a), (3, .int (nI 3)), (4, .int b), (5, .int n), (6, .ref 42), (7, .ref 44)], [.int (nI 2), .ref 0], S)) rfl ?_
      refine x_callV [.int (nI 2)] rfl cv_N_find.1 lk_6_134 cv_N_find.2.1 cv_N_find.2.2.1 rfl cv_N_find.2.2.2.1 rfl rfl (Nat.le_of_ble_eq_true rfl) (by decide) cv_N_find.2.2.2.2 (c_find S (2)) ?_
      rintro r x ⟨hr, hu⟩
      rw [hr, hu]
      clear hr hu r x
      exact x_ret (r := some (.int ((-10) - nI 2))) rfl rfl trivial ⟨rfl, rfl⟩ rfl

set_option maxHeartbeats 2000000 in
theorem c_copy_ok23 (S : ST) (lo fm sz : Nat) (hH : HR 42 lo fm sz S) (lo2 fm2 sz2 : Nat) (hH2 : HR 44 lo2 fm2 sz2 S) (a b n : Nat) (hz1 : lo = 0) (hz2 : lo2 = 0) (hst : fm = fm2) (ha : a + n ≤ sz) (hb : b + n ≤ sz2) : EX me_N_copy 2 [.ref 0, .int (nI 2), .int (nI a), .int (nI 3), .int (nI b), .int (nI n)] S (fun r u => r = some (.int 1) ∧ u = rwr S 45 (va_cpy (S.1 43) (S.1 45) a b n)) := by
  refine EX.of mok_N_copy (Nat.le_of_ble_eq_true rfl) ?_
  obtain ⟨g3, g1, g2, hl1, hf2, hs60⟩ := id hH
  obtain ⟨p3, p1, p2, pl1, pf2, ps60⟩ := id hH2
  refine run_ok 2 (c' := (2, [(0, .ref 0), (1, .int (nI 2)), (2, .int (nI a)), (3, .int (nI 3)), (4, .int (nI b)), (5, .int (nI n))], [.int (nI 4), .int (nI 2)], S)) rfl ?_
  refine x_callS [.int (nI 2), .int (nI 4)] rfl cs_N_isBelow.1 lk_6_73 cs_N_isBelow.2.1 rfl rfl (Nat.le_of_ble_eq_true rfl) (by decide) cs_N_isBelow.2.2 (c_isBelow S (nI 2) (nI 4)) ?_
  rintro r u ⟨hr, hu⟩
  rw [hr, hu]
  clear hr hu r u
  refine x_ifB_eq 16 rfl rfl (fun hn => absurd hn (fun z => z (inr_t (by decide) (by decide)))) (fun h5 => ?_)
  refine run_ok 2 (c' := (10, [(0, .ref 0), (1, .int (nI 2)), (2, .int (nI a)), (3, .int (nI 3)), (4, .int (nI b)), (5, .int (nI n))], [.int (nI 4), .int (nI 3)], S)) rfl ?_
  refine x_callS [.int (nI 3), .int (nI 4)] rfl cs_N_isBelow.1 lk_6_73 cs_N_isBelow.2.1 rfl rfl (Nat.le_of_ble_eq_true rfl) (by decide) cs_N_isBelow.2.2 (c_isBelow S (nI 3) (nI 4)) ?_
  rintro r u ⟨hr, hu⟩
  rw [hr, hu]
  clear hr hu r u
  refine x_ifB_ne 19 rfl rfl (fun h13 => ?_) (fun hn => absurd (inr_t (by decide) (by decide)) hn)
  refine run_ok 3 (c' := (24, [(0, .ref 0), (1, .int (nI 2)), (2, .int (nI a)), (3, .int (nI 3)), (4, .int (nI b)), (5, .int (nI n))], [.int (nI 2), .ref 37], S)) rfl ?_
  refine x_aald (t := 42) rfl rfl (vp_in_nI (by decide) (by decide)) (by decide) ?_
  refine run_ok 4 (c' := (32, [(0, .ref 0), (1, .int (nI 2)), (2, .int (nI a)), (3, .int (nI 3)), (4, .int (nI b)), (5, .int (nI n)), (6, .ref 42)], [.int (nI 3), .ref 37], S)) rfl ?_
  refine x_aald (t := 44) rfl rfl (vp_in_nI (by decide) (by decide)) (by decide) ?_
  refine run_ok 3 (c' := (40, [(0, .ref 0), (1, .int (nI 2)), (2, .int (nI a)), (3, .int (nI 3)), (4, .int (nI b)), (5, .int (nI n)), (6, .ref 42), (7, .ref 44)], [.int (S.1 42 3)], S)) rfl ?_
  refine x_top (v' := nI lo) g3 ?_
  refine x_ifN_ne 51 rfl rfl (by omega) (fun hn => absurd hz1 hn) (fun h40 => ?_)
  refine run_ok 2 (c' := (48, [(0, .ref 0), (1, .int (nI 2)), (2, .int (nI a)), (3, .int (nI 3)), (4, .int (nI b)), (5, .int (nI n)), (6, .ref 42), (7, .ref 44)], [.int (S.1 44 3)], S)) rfl ?_
  refine x_top (v' := nI lo2) p3 ?_
  refine x_ifN_eq 57 rfl rfl (by omega) (fun h48 => ?_) (fun hn => absurd hz2 hn)
  refine run_ok 2 (c' := (62, [(0, .ref 0), (1, .int (nI 2)), (2, .int (nI a)), (3, .int (nI 3)), (4, .int (nI b)), (5, .int (nI n)), (6, .ref 42), (7, .ref 44)], [.int (S.1 42 1)], S)) rfl ?_
  refine x_top (v' := nI fm) g1 ?_
  refine run_ok 2 (c' := (67, [(0, .ref 0), (1, .int (nI 2)), (2, .int (nI a)), (3, .int (nI 3)), (4, .int (nI b)), (5, .int (nI n)), (6, .ref 42), (7, .ref 44)], [.int (S.1 44 1), .int (nI fm)], S)) rfl ?_
  refine x_top (v' := nI fm2) p1 ?_
  refine x_icmpN_eq 76 rfl rfl (by omega) (by omega) (fun h67 => ?_) (fun hn => absurd hst hn)
  refine run_ok 3 (c' := (81, [(0, .ref 0), (1, .int (nI 2)), (2, .int (nI a)), (3, .int (nI 3)), (4, .int (nI b)), (5, .int (nI n)), (6, .ref 42), (7, .ref 44)], [.int (nI n), .int (nI a), .ref 42], S)) rfl ?_
  refine x_callV [.int (nI a), .int (nI n)] rfl cv_H_hasItems.1 lk_6_265 cv_H_hasItems.2.1 cv_H_hasItems.2.2.1 rfl cv_H_hasItems.2.2.2.1 rfl rfl (Nat.le_of_ble_eq_true rfl) (by decide) cv_H_hasItems.2.2.2.2 (c_hasItems2 S lo fm sz hH (nI a) (nI n)) ?_
  rintro r x ⟨hr, hu⟩
  rw [hr, hu]
  clear hr hu r x
  refine x_ifB_eq 99 rfl rfl (fun hn => absurd hn (fun z => z (hasI_t ha hs60))) (fun h84 => ?_)
  refine run_ok 3 (c' := (93, [(0, .ref 0), (1, .int (nI 2)), (2, .int (nI a)), (3, .int (nI 3)), (4, .int (nI b)), (5, .int (nI n)), (6, .ref 42), (7, .ref 44)], [.int (nI n), .int (nI b), .ref 44], S)) rfl ?_
  refine x_callV [.int (nI b), .int (nI n)] rfl cv_H_hasItems.1 lk_6_265 cv_H_hasItems.2.1 cv_H_hasItems.2.2.1 rfl cv_H_hasItems.2.2.2.1 rfl rfl (Nat.le_of_ble_eq_true rfl) (by decide) cv_H_hasItems.2.2.2.2 (c_hasItems3 S lo2 fm2 sz2 hH2 (nI b) (nI n)) ?_
  rintro r x ⟨hr, hu⟩
  rw [hr, hu]
  clear hr hu r x
  refine x_ifB_ne 105 rfl rfl (fun h96 => ?_) (fun hn => absurd (hasI_t hb ps60) hn)
  refine run_ok 7 (c' := (120, [(0, .ref 0), (1, .int (nI 2)), (2, .int (nI a)), (3, .int (nI 3)), (4, .int (nI b)), (5, .int (nI n)), (6, .ref 42), (7, .ref 44)], [.int (nI n), .int (nI b), .ref 45, .int (nI a), .ref 43], S)) rfl ?_
  refine x_copyN rfl lk_6_268 rfl rfl (by decide) (by decide) (by omega) (by omega) (Nat.le_of_ble_eq_true rfl) (by decide) ?_
  refine run_ok 1 (c' := (124, [(0, .ref 0), (1, .int (nI 2)), (2, .int (nI a)), (3, .int (nI 3)), (4, .int (nI b)), (5, .int (nI n)), (6, .ref 42), (7, .ref 44)], [.int (nI 1)], (rwr S 45 (va_cpy (S.1 43) (S.1 45) a b n)))) rfl ?_
  exact x_ret (r := some (.int (nI 1))) rfl rfl trivial ⟨rfl, rfl⟩ rfl

set_option maxHeartbeats 2000000 in
theorem c_copy_null30 (S : ST) (lo fm sz : Nat) (hH : HR 44 lo fm sz S) (lo2 fm2 sz2 : Nat) (hH2 : HR 38 lo2 fm2 sz2 S) (a b n : Int32) (hnl : ¬ (lo = 0 ∧ lo2 = 0)) : EX me_N_copy 2 [.ref 0, .int (nI 3), .int a, .int (nI 0), .int b, .int n] S (fun r u => r = some (.int ((-10) - nI 1)) ∧ u = pt S 0 10 (nI 1)) := by
  refine EX.of mok_N_copy (Nat.le_of_ble_eq_true rfl) ?_
  obtain ⟨g3, g1, g2, hl1, hf2, hs60⟩ := id hH
  obtain ⟨p3, p1, p2, pl1, pf2, ps60⟩ := id hH2
  refine run_ok 2 (c' := (2, [(0, .ref 0), (1, .int (nI 3)), (2, .int a), (3, .int (nI 0)), (4, .int b), (5, .int n)], [.int (nI 4), .int (nI 3)], S)) rfl ?_
  refine x_callS [.int (nI 3), .int (nI 4)] rfl cs_N_isBelow.1 lk_6_73 cs_N_isBelow.2.1 rfl rfl (Nat.le_of_ble_eq_true rfl) (by decide) cs_N_isBelow.2.2 (c_isBelow S (nI 3) (nI 4)) ?_
  rintro r u ⟨hr, hu⟩
  rw [hr, hu]
  clear hr hu r u
  refine x_ifB_eq 16 rfl rfl (fun hn => absurd hn (fun z => z (inr_t (by decide) (by decide)))) (fun h5 => ?_)
  refine run_ok 2 (c' := (10, [(0, .ref 0), (1, .int (nI 3)), (2, .int a), (3, .int (nI 0)), (4, .int b), (5, .int n)], [.int (nI 4), .int (nI 0)], S)) rfl ?_
  refine x_callS [.int (nI 0), .int (nI 4)] rfl cs_N_isBelow.1 lk_6_73 cs_N_isBelow.2.1 rfl rfl (Nat.le_of_ble_eq_true rfl) (by decide) cs_N_isBelow.2.2 (c_isBelow S (nI 0) (nI 4)) ?_
  rintro r u ⟨hr, hu⟩
  rw [hr, hu]
  clear hr hu r u
  refine x_ifB_ne 19 rfl rfl (fun h13 => ?_) (fun hn => absurd (inr_t (by decide) (by decide)) hn)
  refine run_ok 3 (c' := (24, [(0, .ref 0), (1, .int (nI 3)), (2, .int a), (3, .int (nI 0)), (4, .int b), (5, .int n)], [.int (nI 3), .ref 37], S)) rfl ?_
  refine x_aald (t := 44) rfl rfl (vp_in_nI (by decide) (by decide)) (by decide) ?_
  refine run_ok 4 (c' := (32, [(0, .ref 0), (1, .int (nI 3)), (2, .int a), (3, .int (nI 0)), (4, .int b), (5, .int n), (6, .ref 44)], [.int (nI 0), .ref 37], S)) rfl ?_
  refine x_aald (t := 38) rfl rfl (vp_in_nI (by decide) (by decide)) (by decide) ?_
  refine run_ok 3 (c' := (40, [(0, .ref 0), (1, .int (nI 3)), (2, .int a), (3, .int (nI 0)), (4, .int b), (5, .int n), (6, .ref 44), (7, .ref 38)], [.int (S.1 44 3)], S)) rfl ?_
  refine x_top (v' := nI lo) g3 ?_
  refine x_ifN_ne 51 rfl rfl (by omega) (fun h40 => ?_) (fun h40 => ?_)
  · refine run_ok 2 (c' := (53, [(0, .ref 0), (1, .int (nI 3)), (2, .int a), (3, .int (nI 0)), (4, .int b), (5, .int n), (6, .ref 44), (7, .ref 38)], [.int (nI 1), .ref 0], S)) rfl ?_
    refine x_callV [.int (nI 1)] rfl cv_N_find.1 lk_6_134 cv_N_find.2.1 cv_N_find.2.2.1 rfl cv_N_find.2.2.2.1 rfl rfl (Nat.le_of_ble_eq_true rfl) (by decide) cv_N_find.2.2.2.2 (c_find S (1)) ?_
    rintro r x ⟨hr, hu⟩
    rw [hr, hu]
    clear hr hu r x
    exact x_ret (r := some (.int ((-10) - nI 1))) rfl rfl trivial ⟨rfl, rfl⟩ rfl
  · refine run_ok 2 (c' := (48, [(0, .ref 0), (1, .int (nI 3)), (2, .int a), (3, .int (nI 0)), (4, .int b), (5, .int n), (6, .ref 44), (7, .ref 38)], [.int (S.1 38 3)], S)) rfl ?_
    refine x_top (v' := nI lo2) p3 ?_
    refine x_ifN_eq 57 rfl rfl (by omega) (fun h48 => ?_) (fun h48 => ?_)
    · exact absurd hnl (by omega)
    · refine run_ok 2 (c' := (53, [(0, .ref 0), (1, .int (nI 3)), (2, .int a), (3, .int (nI 0)), (4, .int b), (5, .int n), (6, .ref 44), (7, .ref 38)], [.int (nI 1), .ref 0], S)) rfl ?_
      refine x_callV [.int (nI 1)] rfl cv_N_find.1 lk_6_134 cv_N_find.2.1 cv_N_find.2.2.1 rfl cv_N_find.2.2.2.1 rfl rfl (Nat.le_of_ble_eq_true rfl) (by decide) cv_N_find.2.2.2.2 (c_find S (1)) ?_
      rintro r x ⟨hr, hu⟩
      rw [hr, hu]
      clear hr hu r x
      exact x_ret (r := some (.int ((-10) - nI 1))) rfl rfl trivial ⟨rfl, rfl⟩ rfl

set_option maxHeartbeats 2000000 in
theorem c_copy_store30 (S : ST) (lo fm sz : Nat) (hH : HR 44 lo fm sz S) (lo2 fm2 sz2 : Nat) (hH2 : HR 38 lo2 fm2 sz2 S) (a b n : Int32) (hz1 : lo = 0) (hz2 : lo2 = 0) (hst : ¬ fm = fm2) : EX me_N_copy 2 [.ref 0, .int (nI 3), .int a, .int (nI 0), .int b, .int n] S (fun r u => r = some (.int ((-10) - nI 4)) ∧ u = pt S 0 10 (nI 4)) := by
  refine EX.of mok_N_copy (Nat.le_of_ble_eq_true rfl) ?_
  obtain ⟨g3, g1, g2, hl1, hf2, hs60⟩ := id hH
  obtain ⟨p3, p1, p2, pl1, pf2, ps60⟩ := id hH2
  refine run_ok 2 (c' := (2, [(0, .ref 0), (1, .int (nI 3)), (2, .int a), (3, .int (nI 0)), (4, .int b), (5, .int n)], [.int (nI 4), .int (nI 3)], S)) rfl ?_
  refine x_callS [.int (nI 3), .int (nI 4)] rfl cs_N_isBelow.1 lk_6_73 cs_N_isBelow.2.1 rfl rfl (Nat.le_of_ble_eq_true rfl) (by decide) cs_N_isBelow.2.2 (c_isBelow S (nI 3) (nI 4)) ?_
  rintro r u ⟨hr, hu⟩
  rw [hr, hu]
  clear hr hu r u
  refine x_ifB_eq 16 rfl rfl (fun hn => absurd hn (fun z => z (inr_t (by decide) (by decide)))) (fun h5 => ?_)
  refine run_ok 2 (c' := (10, [(0, .ref 0), (1, .int (nI 3)), (2, .int a), (3, .int (nI 0)), (4, .int b), (5, .int n)], [.int (nI 4), .int (nI 0)], S)) rfl ?_
  refine x_callS [.int (nI 0), .int (nI 4)] rfl cs_N_isBelow.1 lk_6_73 cs_N_isBelow.2.1 rfl rfl (Nat.le_of_ble_eq_true rfl) (by decide) cs_N_isBelow.2.2 (c_isBelow S (nI 0) (nI 4)) ?_
  rintro r u ⟨hr, hu⟩
  rw [hr, hu]
  clear hr hu r u
  refine x_ifB_ne 19 rfl rfl (fun h13 => ?_) (fun hn => absurd (inr_t (by decide) (by decide)) hn)
  refine run_ok 3 (c' := (24, [(0, .ref 0), (1, .int (nI 3)), (2, .int a), (3, .int (nI 0)), (4, .int b), (5, .int n)], [.int (nI 3), .ref 37], S)) rfl ?_
  refine x_aald (t := 44) rfl rfl (vp_in_nI (by decide) (by decide)) (by decide) ?_
  refine run_ok 4 (c' := (32, [(0, .ref 0), (1, .int (nI 3)), (2, .int a), (3, .int (nI 0)), (4, .int b), (5, .int n), (6, .ref 44)], [.int (nI 0), .ref 37], S)) rfl ?_
  refine x_aald (t := 38) rfl rfl (vp_in_nI (by decide) (by decide)) (by decide) ?_
  refine run_ok 3 (c' := (40, [(0, .ref 0), (1, .int (nI 3)), (2, .int a), (3, .int (nI 0)), (4, .int b), (5, .int n), (6, .ref 44), (7, .ref 38)], [.int (S.1 44 3)], S)) rfl ?_
  refine x_top (v' := nI lo) g3 ?_
  refine x_ifN_ne 51 rfl rfl (by omega) (fun hn => absurd hz1 hn) (fun h40 => ?_)
  refine run_ok 2 (c' := (48, [(0, .ref 0), (1, .int (nI 3)), (2, .int a), (3, .int (nI 0)), (4, .int b), (5, .int n), (6, .ref 44), (7, .ref 38)], [.int (S.1 38 3)], S)) rfl ?_
  refine x_top (v' := nI lo2) p3 ?_
  refine x_ifN_eq 57 rfl rfl (by omega) (fun h48 => ?_) (fun hn => absurd hz2 hn)
  refine run_ok 2 (c' := (62, [(0, .ref 0), (1, .int (nI 3)), (2, .int a), (3, .int (nI 0)), (4, .int b), (5, .int n), (6, .ref 44), (7, .ref 38)], [.int (S.1 44 1)], S)) rfl ?_
  refine x_top (v' := nI fm) g1 ?_
  refine run_ok 2 (c' := (67, [(0, .ref 0), (1, .int (nI 3)), (2, .int a), (3, .int (nI 0)), (4, .int b), (5, .int n), (6, .ref 44), (7, .ref 38)], [.int (S.1 38 1), .int (nI fm)], S)) rfl ?_
  refine x_top (v' := nI fm2) p1 ?_
  refine x_icmpN_eq 76 rfl rfl (by omega) (by omega) (fun hn => absurd hn hst) (fun h67 => ?_)
  refine run_ok 2 (c' := (72, [(0, .ref 0), (1, .int (nI 3)), (2, .int a), (3, .int (nI 0)), (4, .int b), (5, .int n), (6, .ref 44), (7, .ref 38)], [.int (nI 4), .ref 0], S)) rfl ?_
  refine x_callV [.int (nI 4)] rfl cv_N_find.1 lk_6_134 cv_N_find.2.1 cv_N_find.2.2.1 rfl cv_N_find.2.2.2.1 rfl rfl (Nat.le_of_ble_eq_true rfl) (by decide) cv_N_find.2.2.2.2 (c_find S (4)) ?_
  rintro r x ⟨hr, hu⟩
  rw [hr, hu]
  clear hr hu r x
  exact x_ret (r := some (.int ((-10) - nI 4))) rfl rfl trivial ⟨rfl, rfl⟩ rfl

set_option maxHeartbeats 2000000 in
theorem c_copy_index30 (S : ST) (lo fm sz : Nat) (hH : HR 44 lo fm sz S) (lo2 fm2 sz2 : Nat) (hH2 : HR 38 lo2 fm2 sz2 S) (a b n : Int32) (hz1 : lo = 0) (hz2 : lo2 = 0) (hst : fm = fm2) (hix : ¬ (hasI sz a n ∧ hasI sz2 b n)) : EX me_N_copy 2 [.ref 0, .int (nI 3), .int a, .int (nI 0), .int b, .int n] S (fun r u => r = some (.int ((-10) - nI 2)) ∧ u = pt S 0 10 (nI 2)) := by
  refine EX.of mok_N_copy (Nat.le_of_ble_eq_true rfl) ?_
  obtain ⟨g3, g1, g2, hl1, hf2, hs60⟩ := id hH
  obtain ⟨p3, p1, p2, pl1, pf2, ps60⟩ := id hH2
  refine run_ok 2 (c' := (2, [(0, .ref 0), (1, .int (nI 3)), (2, .int a), (3, .int (nI 0)), (4, .int b), (5, .int n)], [.int (nI 4), .int (nI 3)], S)) rfl ?_
  refine x_callS [.int (nI 3), .int (nI 4)] rfl cs_N_isBelow.1 lk_6_73 cs_N_isBelow.2.1 rfl rfl (Nat.le_of_ble_eq_true rfl) (by decide) cs_N_isBelow.2.2 (c_isBelow S (nI 3) (nI 4)) ?_
  rintro r u ⟨hr, hu⟩
  rw [hr, hu]
  clear hr hu r u
  refine x_ifB_eq 16 rfl rfl (fun hn => absurd hn (fun z => z (inr_t (by decide) (by decide)))) (fun h5 => ?_)
  refine run_ok 2 (c' := (10, [(0, .ref 0), (1, .int (nI 3)), (2, .int a), (3, .int (nI 0)), (4, .int b), (5, .int n)], [.int (nI 4), .int (nI 0)], S)) rfl ?_
  refine x_callS [.int (nI 0), .int (nI 4)] rfl cs_N_isBelow.1 lk_6_73 cs_N_isBelow.2.1 rfl rfl (Nat.le_of_ble_eq_true rfl) (by decide) cs_N_isBelow.2.2 (c_isBelow S (nI 0) (nI 4)) ?_
  rintro r u ⟨hr, hu⟩
  rw [hr, hu]
  clear hr hu r u
  refine x_ifB_ne 19 rfl rfl (fun h13 => ?_) (fun hn => absurd (inr_t (by decide) (by decide)) hn)
  refine run_ok 3 (c' := (24, [(0, .ref 0), (1, .int (nI 3)), (2, .int a), (3, .int (nI 0)), (4, .int b), (5, .int n)], [.int (nI 3), .ref 37], S)) rfl ?_
  refine x_aald (t := 44) rfl rfl (vp_in_nI (by decide) (by decide)) (by decide) ?_
  refine run_ok 4 (c' := (32, [(0, .ref 0), (1, .int (nI 3)), (2, .int a), (3, .int (nI 0)), (4, .int b), (5, .int n), (6, .ref 44)], [.int (nI 0), .ref 37], S)) rfl ?_
  refine x_aald (t := 38) rfl rfl (vp_in_nI (by decide) (by decide)) (by decide) ?_
  refine run_ok 3 (c' := (40, [(0, .ref 0), (1, .int (nI 3)), (2, .int a), (3, .int (nI 0)), (4, .int b), (5, .int n), (6, .ref 44), (7, .ref 38)], [.int (S.1 44 3)], S)) rfl ?_
  refine x_top (v' := nI lo) g3 ?_
  refine x_ifN_ne 51 rfl rfl (by omega) (fun hn => absurd hz1 hn) (fun h40 => ?_)
  refine run_ok 2 (c' := (48, [(0, .ref 0), (1, .int (nI 3)), (2, .int a), (3, .int (nI 0)), (4, .int b), (5, .int n), (6, .ref 44), (7, .ref 38)], [.int (S.1 38 3)], S)) rfl ?_
  refine x_top (v' := nI lo2) p3 ?_
  refine x_ifN_eq 57 rfl rfl (by omega) (fun h48 => ?_) (fun hn => absurd hz2 hn)
  refine run_ok 2 (c' := (62, [(0, .ref 0), (1, .int (nI 3)), (2, .int a), (3, .int (nI 0)), (4, .int b), (5, .int n), (6, .ref 44), (7, .ref 38)], [.int (S.1 44 1)], S)) rfl ?_
  refine x_top (v' := nI fm) g1 ?_
  refine run_ok 2 (c' := (67, [(0, .ref 0), (1, .int (nI 3)), (2, .int a), (3, .int (nI 0)), (4, .int b), (5, .int n), (6, .ref 44), (7, .ref 38)], [.int (S.1 38 1), .int (nI fm)], S)) rfl ?_
  refine x_top (v' := nI fm2) p1 ?_
  refine x_icmpN_eq 76 rfl rfl (by omega) (by omega) (fun h67 => ?_) (fun hn => absurd hst hn)
  refine run_ok 3 (c' := (81, [(0, .ref 0), (1, .int (nI 3)), (2, .int a), (3, .int (nI 0)), (4, .int b), (5, .int n), (6, .ref 44), (7, .ref 38)], [.int n, .int a, .ref 44], S)) rfl ?_
  refine x_callV [.int a, .int n] rfl cv_H_hasItems.1 lk_6_265 cv_H_hasItems.2.1 cv_H_hasItems.2.2.1 rfl cv_H_hasItems.2.2.2.1 rfl rfl (Nat.le_of_ble_eq_true rfl) (by decide) cv_H_hasItems.2.2.2.2 (c_hasItems3 S lo fm sz hH (a) (n)) ?_
  rintro r x ⟨hr, hu⟩
  rw [hr, hu]
  clear hr hu r x
  refine x_ifB_eq 99 rfl rfl (fun h84 => ?_) (fun h84 => ?_)
  · refine run_ok 2 (c' := (101, [(0, .ref 0), (1, .int (nI 3)), (2, .int a), (3, .int (nI 0)), (4, .int b), (5, .int n), (6, .ref 44), (7, .ref 38)], [.int (nI 2), .ref 0], S)) rfl ?_
    refine x_callV [.int (nI 2)] rfl cv_N_find.1 lk_6_134 cv_N_find.2.1 cv_N_find.2.2.1 rfl cv_N_find.2.2.2.1 rfl rfl (Nat.le_of_ble_eq_true rfl) (by decide) cv_N_find.2.2.2.2 (c_find S (2)) ?_
    rintro r x ⟨hr, hu⟩
    rw [hr, hu]
    clear hr hu r x
    exact x_ret (r := some (.int ((-10) - nI 2))) rfl rfl trivial ⟨rfl, rfl⟩ rfl
  · refine run_ok 3 (c' := (93, [(0, .ref 0), (1, .int (nI 3)), (2, .int a), (3, .int (nI 0)), (4, .int b), (5, .int n), (6, .ref 44), (7, .ref 38)], [.int n, .int b, .ref 38], S)) rfl ?_
    refine x_callV [.int b, .int n] rfl cv_H_hasItems.1 lk_6_265 cv_H_hasItems.2.1 cv_H_hasItems.2.2.1 rfl cv_H_hasItems.2.2.2.1 rfl rfl (Nat.le_of_ble_eq_true rfl) (by decide) cv_H_hasItems.2.2.2.2 (c_hasItems0 S lo2 fm2 sz2 hH2 (b) (n)) ?_
    rintro r x ⟨hr, hu⟩
    rw [hr, hu]
    clear hr hu r x
    refine x_ifB_ne 105 rfl rfl (fun h96 => ?_) (fun h96 => ?_)
    · exact absurd ⟨h84, h96⟩ hix
    · refine run_ok 2 (c' := (101, [(0, .ref 0), (1, .int (nI 3)), (2, .int a), (3, .int (nI 0)), (4, .int b), (5, .int n), (6, .ref 44), (7, .ref 38)], [.int (nI 2), .ref 0], S)) rfl ?_
      refine x_callV [.int (nI 2)] rfl cv_N_find.1 lk_6_134 cv_N_find.2.1 cv_N_find.2.2.1 rfl cv_N_find.2.2.2.1 rfl rfl (Nat.le_of_ble_eq_true rfl) (by decide) cv_N_find.2.2.2.2 (c_find S (2)) ?_
      rintro r x ⟨hr, hu⟩
      rw [hr, hu]
      clear hr hu r x
      exact x_ret (r := some (.int ((-10) - nI 2))) rfl rfl trivial ⟨rfl, rfl⟩ rfl

set_option maxHeartbeats 2000000 in
theorem c_copy_ok30 (S : ST) (lo fm sz : Nat) (hH : HR 44 lo fm sz S) (lo2 fm2 sz2 : Nat) (hH2 : HR 38 lo2 fm2 sz2 S) (a b n : Nat) (hz1 : lo = 0) (hz2 : lo2 = 0) (hst : fm = fm2) (ha : a + n ≤ sz) (hb : b + n ≤ sz2) : EX me_N_copy 2 [.ref 0, .int (nI 3), .int (nI a), .int (nI 0), .int (nI b), .int (nI n)] S (fun r u => r = some (.int 1) ∧ u = rwr S 39 (va_cpy (S.1 45) (S.1 39) a b n)) := by
  refine EX.of mok_N_copy (Nat.le_of_ble_eq_true rfl) ?_
  obtain ⟨g3, g1, g2, hl1, hf2, hs60⟩ := id hH
  obtain ⟨p3, p1, p2, pl1, pf2, ps60⟩ := id hH2
  refine run_ok 2 (c' := (2, [(0, .ref 0), (1, .int (nI 3)), (2, .int (nI a)), (3, .int (nI 0)), (4, .int (nI b)), (5, .int (nI n))], [.int (nI 4), .int (nI 3)], S)) rfl ?_
  refine x_callS [.int (nI 3), .int (nI 4)] rfl cs_N_isBelow.1 lk_6_73 cs_N_isBelow.2.1 rfl rfl (Nat.le_of_ble_eq_true rfl) (by decide) cs_N_isBelow.2.2 (c_isBelow S (nI 3) (nI 4)) ?_
  rintro r u ⟨hr, hu⟩
  rw [hr, hu]
  clear hr hu r u
  refine x_ifB_eq 16 rfl rfl (fun hn => absurd hn (fun z => z (inr_t (by decide) (by decide)))) (fun h5 => ?_)
  refine run_ok 2 (c' := (10, [(0, .ref 0), (1, .int (nI 3)), (2, .int (nI a)), (3, .int (nI 0)), (4, .int (nI b)), (5, .int (nI n))], [.int (nI 4), .int (nI 0)], S)) rfl ?_
  refine x_callS [.int (nI 0), .int (nI 4)] rfl cs_N_isBelow.1 lk_6_73 cs_N_isBelow.2.1 rfl rfl (Nat.le_of_ble_eq_true rfl) (by decide) cs_N_isBelow.2.2 (c_isBelow S (nI 0) (nI 4)) ?_
  rintro r u ⟨hr, hu⟩
  rw [hr, hu]
  clear hr hu r u
  refine x_ifB_ne 19 rfl rfl (fun h13 => ?_) (fun hn => absurd (inr_t (by decide) (by decide)) hn)
  refine run_ok 3 (c' := (24, [(0, .ref 0), (1, .int (nI 3)), (2, .int (nI a)), (3, .int (nI 0)), (4, .int (nI b)), (5, .int (nI n))], [.int (nI 3), .ref 37], S)) rfl ?_
  refine x_aald (t := 44) rfl rfl (vp_in_nI (by decide) (by decide)) (by decide) ?_
  refine run_ok 4 (c' := (32, [(0, .ref 0), (1, .int (nI 3)), (2, .int (nI a)), (3, .int (nI 0)), (4, .int (nI b)), (5, .int (nI n)), (6, .ref 44)], [.int (nI 0), .ref 37], S)) rfl ?_
  refine x_aald (t := 38) rfl rfl (vp_in_nI (by decide) (by decide)) (by decide) ?_
  refine run_ok 3 (c' := (40, [(0, .ref 0), (1, .int (nI 3)), (2, .int (nI a)), (3, .int (nI 0)), (4, .int (nI b)), (5, .int (nI n)), (6, .ref 44), (7, .ref 38)], [.int (S.1 44 3)], S)) rfl ?_
  refine x_top (v' := nI lo) g3 ?_
  refine x_ifN_ne 51 rfl rfl (by omega) (fun hn => absurd hz1 hn) (fun h40 => ?_)
  refine run_ok 2 (c' := (48, [(0, .ref 0), (1, .int (nI 3)), (2, .int (nI a)), (3, .int (nI 0)), (4, .int (nI b)), (5, .int (nI n)), (6, .ref 44), (7, .ref 38)], [.int (S.1 38 3)], S)) rfl ?_
  refine x_top (v' := nI lo2) p3 ?_
  refine x_ifN_eq 57 rfl rfl (by omega) (fun h48 => ?_) (fun hn => absurd hz2 hn)
  refine run_ok 2 (c' := (62, [(0, .ref 0), (1, .int (nI 3)), (2, .int (nI a)), (3, .int (nI 0)), (4, .int (nI b)), (5, .int (nI n)), (6, .ref 44), (7, .ref 38)], [.int (S.1 44 1)], S)) rfl ?_
  refine x_top (v' := nI fm) g1 ?_
  refine run_ok 2 (c' := (67, [(0, .ref 0), (1, .int (nI 3)), (2, .int (nI a)), (3, .int (nI 0)), (4, .int (nI b)), (5, .int (nI n)), (6, .ref 44), (7, .ref 38)], [.int (S.1 38 1), .int (nI fm)], S)) rfl ?_
  refine x_top (v' := nI fm2) p1 ?_
  refine x_icmpN_eq 76 rfl rfl (by omega) (by omega) (fun h67 => ?_) (fun hn => absurd hst hn)
  refine run_ok 3 (c' := (81, [(0, .ref 0), (1, .int (nI 3)), (2, .int (nI a)), (3, .int (nI 0)), (4, .int (nI b)), (5, .int (nI n)), (6, .ref 44), (7, .ref 38)], [.int (nI n), .int (nI a), .ref 44], S)) rfl ?_
  refine x_callV [.int (nI a), .int (nI n)] rfl cv_H_hasItems.1 lk_6_265 cv_H_hasItems.2.1 cv_H_hasItems.2.2.1 rfl cv_H_hasItems.2.2.2.1 rfl rfl (Nat.le_of_ble_eq_true rfl) (by decide) cv_H_hasItems.2.2.2.2 (c_hasItems3 S lo fm sz hH (nI a) (nI n)) ?_
  rintro r x ⟨hr, hu⟩
  rw [hr, hu]
  clear hr hu r x
  refine x_ifB_eq 99 rfl rfl (fun hn => absurd hn (fun z => z (hasI_t ha hs60))) (fun h84 => ?_)
  refine run_ok 3 (c' := (93, [(0, .ref 0), (1, .int (nI 3)), (2, .int (nI a)), (3, .int (nI 0)), (4, .int (nI b)), (5, .int (nI n)), (6, .ref 44), (7, .ref 38)], [.int (nI n), .int (nI b), .ref 38], S)) rfl ?_
  refine x_callV [.int (nI b), .int (nI n)] rfl cv_H_hasItems.1 lk_6_265 cv_H_hasItems.2.1 cv_H_hasItems.2.2.1 rfl cv_H_hasItems.2.2.2.1 rfl rfl (Nat.le_of_ble_eq_true rfl) (by decide) cv_H_hasItems.2.2.2.2 (c_hasItems0 S lo2 fm2 sz2 hH2 (nI b) (nI n)) ?_
  rintro r x ⟨hr, hu⟩
  rw [hr, hu]
  clear hr hu r x
  refine x_ifB_ne 105 rfl rfl (fun h96 => ?_) (fun hn => absurd (hasI_t hb ps60) hn)
  refine run_ok 7 (c' := (120, [(0, .ref 0), (1, .int (nI 3)), (2, .int (nI a)), (3, .int (nI 0)), (4, .int (nI b)), (5, .int (nI n)), (6, .ref 44), (7, .ref 38)], [.int (nI n), .int (nI b), .ref 39, .int (nI a), .ref 45], S)) rfl ?_
  refine x_copyN rfl lk_6_268 rfl rfl (by decide) (by decide) (by omega) (by omega) (Nat.le_of_ble_eq_true rfl) (by decide) ?_
  refine run_ok 1 (c' := (124, [(0, .ref 0), (1, .int (nI 3)), (2, .int (nI a)), (3, .int (nI 0)), (4, .int (nI b)), (5, .int (nI n)), (6, .ref 44), (7, .ref 38)], [.int (nI 1)], (rwr S 39 (va_cpy (S.1 45) (S.1 39) a b n)))) rfl ?_
  exact x_ret (r := some (.int (nI 1))) rfl rfl trivial ⟨rfl, rfl⟩ rfl

set_option maxHeartbeats 2000000 in
theorem c_copy_null31 (S : ST) (lo fm sz : Nat) (hH : HR 44 lo fm sz S) (lo2 fm2 sz2 : Nat) (hH2 : HR 40 lo2 fm2 sz2 S) (a b n : Int32) (hnl : ¬ (lo = 0 ∧ lo2 = 0)) : EX me_N_copy 2 [.ref 0, .int (nI 3), .int a, .int (nI 1), .int b, .int n] S (fun r u => r = some (.int ((-10) - nI 1)) ∧ u = pt S 0 10 (nI 1)) := by
  refine EX.of mok_N_copy (Nat.le_of_ble_eq_true rfl) ?_
  obtain ⟨g3, g1, g2, hl1, hf2, hs60⟩ := id hH
  obtain ⟨p3, p1, p2, pl1, pf2, ps60⟩ := id hH2
  refine run_ok 2 (c' := (2, [(0, .ref 0), (1, .int (nI 3)), (2, .int a), (3, .int (nI 1)), (4, .int b), (5, .int n)], [.int (nI 4), .int (nI 3)], S)) rfl ?_
  refine x_callS [.int (nI 3), .int (nI 4)] rfl cs_N_isBelow.1 lk_6_73 cs_N_isBelow.2.1 rfl rfl (Nat.le_of_ble_eq_true rfl) (by decide) cs_N_isBelow.2.2 (c_isBelow S (nI 3) (nI 4)) ?_
  rintro r u ⟨hr, hu⟩
  rw [hr, hu]
  clear hr hu r u
  refine x_ifB_eq 16 rfl rfl (fun hn => absurd hn (fun z => z (inr_t (by decide) (by decide)))) (fun h5 => ?_)
  refine run_ok 2 (c' := (10, [(0, .ref 0), (1, .int (nI 3)), (2, .int a), (3, .int (nI 1)), (4, .int b), (5, .int n)], [.int (nI 4), .int (nI 1)], S)) rfl ?_
  refine x_callS [.int (nI 1), .int (nI 4)] rfl cs_N_isBelow.1 lk_6_73 cs_N_isBelow.2.1 rfl rfl (Nat.le_of_ble_eq_true rfl) (by decide) cs_N_isBelow.2.2 (c_isBelow S (nI 1) (nI 4)) ?_
  rintro r u ⟨hr, hu⟩
  rw [hr, hu]
  clear hr hu r u
  refine x_ifB_ne 19 rfl rfl (fun h13 => ?_) (fun hn => absurd (inr_t (by decide) (by decide)) hn)
  refine run_ok 3 (c' := (24, [(0, .ref 0), (1, .int (nI 3)), (2, .int a), (3, .int (nI 1)), (4, .int b), (5, .int n)], [.int (nI 3), .ref 37], S)) rfl ?_
  refine x_aald (t := 44) rfl rfl (vp_in_nI (by decide) (by decide)) (by decide) ?_
  refine run_ok 4 (c' := (32, [(0, .ref 0), (1, .int (nI 3)), (2, .int a), (3, .int (nI 1)), (4, .int b), (5, .int n), (6, .ref 44)], [.int (nI 1), .ref 37], S)) rfl ?_
  refine x_aald (t := 40) rfl rfl (vp_in_nI (by decide) (by decide)) (by decide) ?_
  refine run_ok 3 (c' := (40, [(0, .ref 0), (1, .int (nI 3)), (2, .int a), (3, .int (nI 1)), (4, .int b), (5, .int n), (6, .ref 44), (7, .ref 40)], [.int (S.1 44 3)], S)) rfl ?_
  refine x_top (v' := nI lo) g3 ?_
  refine x_ifN_ne 51 rfl rfl (by omega) (fun h40 => ?_) (fun h40 => ?_)
  · refine run_ok 2 (c' := (53, [(0, .ref 0), (1, .int (nI 3)), (2, .int a), (3, .int (nI 1)), (4, .int b), (5, .int n), (6, .ref 44), (7, .ref 40)], [.int (nI 1), .ref 0], S)) rfl ?_
    refine x_callV [.int (nI 1)] rfl cv_N_find.1 lk_6_134 cv_N_find.2.1 cv_N_find.2.2.1 rfl cv_N_find.2.2.2.1 rfl rfl (Nat.le_of_ble_eq_true rfl) (by decide) cv_N_find.2.2.2.2 (c_find S (1)) ?_
    rintro r x ⟨hr, hu⟩
    rw [hr, hu]
    clear hr hu r x
    exact x_ret (r := some (.int ((-10) - nI 1))) rfl rfl trivial ⟨rfl, rfl⟩ rfl
  · refine run_ok 2 (c' := (48, [(0, .ref 0), (1, .int (nI 3)), (2, .int a), (3, .int (nI 1)), (4, .int b), (5, .int n), (6, .ref 44), (7, .ref 40)], [.int (S.1 40 3)], S)) rfl ?_
    refine x_top (v' := nI lo2) p3 ?_
    refine x_ifN_eq 57 rfl rfl (by omega) (fun h48 => ?_) (fun h48 => ?_)
    · exact absurd hnl (by omega)
    · refine run_ok 2 (c' := (53, [(0, .ref 0), (1, .int (nI 3)), (2, .int a), (3, .int (nI 1)), (4, .int b), (5, .int n), (6, .ref 44), (7, .ref 40)], [.int (nI 1), .ref 0], S)) rfl ?_
      refine x_callV [.int (nI 1)] rfl cv_N_find.1 lk_6_134 cv_N_find.2.1 cv_N_find.2.2.1 rfl cv_N_find.2.2.2.1 rfl rfl (Nat.le_of_ble_eq_true rfl) (by decide) cv_N_find.2.2.2.2 (c_find S (1)) ?_
      rintro r x ⟨hr, hu⟩
      rw [hr, hu]
      clear hr hu r x
      exact x_ret (r := some (.int ((-10) - nI 1))) rfl rfl trivial ⟨rfl, rfl⟩ rfl

set_option maxHeartbeats 2000000 in
theorem c_copy_store31 (S : ST) (lo fm sz : Nat) (hH : HR 44 lo fm sz S) (lo2 fm2 sz2 : Nat) (hH2 : HR 40 lo2 fm2 sz2 S) (a b n : Int32) (hz1 : lo = 0) (hz2 : lo2 = 0) (hst : ¬ fm = fm2) : EX me_N_copy 2 [.ref 0, .int (nI 3), .int a, .int (nI 1), .int b, .int n] S (fun r u => r = some (.int ((-10) - nI 4)) ∧ u = pt S 0 10 (nI 4)) := by
  refine EX.of mok_N_copy (Nat.le_of_ble_eq_true rfl) ?_
  obtain ⟨g3, g1, g2, hl1, hf2, hs60⟩ := id hH
  obtain ⟨p3, p1, p2, pl1, pf2, ps60⟩ := id hH2
  refine run_ok 2 (c' := (2, [(0, .ref 0), (1, .int (nI 3)), (2, .int a), (3, .int (nI 1)), (4, .int b), (5, .int n)], [.int (nI 4), .int (nI 3)], S)) rfl ?_
  refine x_callS [.int (nI 3), .int (nI 4)] rfl cs_N_isBelow.1 lk_6_73 cs_N_isBelow.2.1 rfl rfl (Nat.le_of_ble_eq_true rfl) (by decide) cs_N_isBelow.2.2 (c_isBelow S (nI 3) (nI 4)) ?_
  rintro r u ⟨hr, hu⟩
  rw [hr, hu]
  clear hr hu r u
  refine x_ifB_eq 16 rfl rfl (fun hn => absurd hn (fun z => z (inr_t (by decide) (by decide)))) (fun h5 => ?_)
  refine run_ok 2 (c' := (10, [(0, .ref 0), (1, .int (nI 3)), (2, .int a), (3, .int (nI 1)), (4, .int b), (5, .int n)], [.int (nI 4), .int (nI 1)], S)) rfl ?_
  refine x_callS [.int (nI 1), .int (nI 4)] rfl cs_N_isBelow.1 lk_6_73 cs_N_isBelow.2.1 rfl rfl (Nat.le_of_ble_eq_true rfl) (by decide) cs_N_isBelow.2.2 (c_isBelow S (nI 1) (nI 4)) ?_
  rintro r u ⟨hr, hu⟩
  rw [hr, hu]
  clear hr hu r u
  refine x_ifB_ne 19 rfl rfl (fun h13 => ?_) (fun hn => absurd (inr_t (by decide) (by decide)) hn)
  refine run_ok 3 (c' := (24, [(0, .ref 0), (1, .int (nI 3)), (2, .int a), (3, .int (nI 1)), (4, .int b), (5, .int n)], [.int (nI 3), .ref 37], S)) rfl ?_
  refine x_aald (t := 44) rfl rfl (vp_in_nI (by decide) (by decide)) (by decide) ?_
  refine run_ok 4 (c' := (32, [(0, .ref 0), (1, .int (nI 3)), (2, .int a), (3, .int (nI 1)), (4, .int b), (5, .int n), (6, .ref 44)], [.int (nI 1), .ref 37], S)) rfl ?_
  refine x_aald (t := 40) rfl rfl (vp_in_nI (by decide) (by decide)) (by decide) ?_
  refine run_ok 3 (c' := (40, [(0, .ref 0), (1, .int (nI 3)), (2, .int a), (3, .int (nI 1)), (4, .int b), (5, .int n), (6, .ref 44), (7, .ref 40)], [.int (S.1 44 3)], S)) rfl ?_
  refine x_top (v' := nI lo) g3 ?_
  refine x_ifN_ne 51 rfl rfl (by omega) (fun hn => absurd hz1 hn) (fun h40 => ?_)
  refine run_ok 2 (c' := (48, [(0, .ref 0), (1, .int (nI 3)), (2, .int a), (3, .int (nI 1)), (4, .int b), (5, .int n), (6, .ref 44), (7, .ref 40)], [.int (S.1 40 3)], S)) rfl ?_
  refine x_top (v' := nI lo2) p3 ?_
  refine x_ifN_eq 57 rfl rfl (by omega) (fun h48 => ?_) (fun hn => absurd hz2 hn)
  refine run_ok 2 (c' := (62, [(0, .ref 0), (1, .int (nI 3)), (2, .int a), (3, .int (nI 1)), (4, .int b), (5, .int n), (6, .ref 44), (7, .ref 40)], [.int (S.1 44 1)], S)) rfl ?_
  refine x_top (v' := nI fm) g1 ?_
  refine run_ok 2 (c' := (67, [(0, .ref 0), (1, .int (nI 3)), (2, .int a), (3, .int (nI 1)), (4, .int b), (5, .int n), (6, .ref 44), (7, .ref 40)], [.int (S.1 40 1), .int (nI fm)], S)) rfl ?_
  refine x_top (v' := nI fm2) p1 ?_
  refine x_icmpN_eq 76 rfl rfl (by omega) (by omega) (fun hn => absurd hn hst) (fun h67 => ?_)
  refine run_ok 2 (c' := (72, [(0, .ref 0), (1, .int (nI 3)), (2, .int a), (3, .int (nI 1)), (4, .int b), (5, .int n), (6, .ref 44), (7, .ref 40)], [.int (nI 4), .ref 0], S)) rfl ?_
  refine x_callV [.int (nI 4)] rfl cv_N_find.1 lk_6_134 cv_N_find.2.1 cv_N_find.2.2.1 rfl cv_N_find.2.2.2.1 rfl rfl (Nat.le_of_ble_eq_true rfl) (by decide) cv_N_find.2.2.2.2 (c_find S (4)) ?_
  rintro r x ⟨hr, hu⟩
  rw [hr, hu]
  clear hr hu r x
  exact x_ret (r := some (.int ((-10) - nI 4))) rfl rfl trivial ⟨rfl, rfl⟩ rfl

set_option maxHeartbeats 2000000 in
theorem c_copy_index31 (S : ST) (lo fm sz : Nat) (hH : HR 44 lo fm sz S) (lo2 fm2 sz2 : Nat) (hH2 : HR 40 lo2 fm2 sz2 S) (a b n : Int32) (hz1 : lo = 0) (hz2 : lo2 = 0) (hst : fm = fm2) (hix : ¬ (hasI sz a n ∧ hasI sz2 b n)) : EX me_N_copy 2 [.ref 0, .int (nI 3), .int a, .int (nI 1), .int b, .int n] S (fun r u => r = some (.int ((-10) - nI 2)) ∧ u = pt S 0 10 (nI 2)) := by
  refine EX.of mok_N_copy (Nat.le_of_ble_eq_true rfl) ?_
  obtain ⟨g3, g1, g2, hl1, hf2, hs60⟩ := id hH
  obtain ⟨p3, p1, p2, pl1, pf2, ps60⟩ := id hH2
  refine run_ok 2 (c' := (2, [(0, .ref 0), (1, .int (nI 3)), (2, .int a), (3, .int (nI 1)), (4, .int b), (5, .int n)], [.int (nI 4), .int (nI 3)], S)) rfl ?_
  refine x_callS [.int (nI 3), .int (nI 4)] rfl cs_N_isBelow.1 lk_6_73 cs_N_isBelow.2.1 rfl rfl (Nat.le_of_ble_eq_true rfl) (by decide) cs_N_isBelow.2.2 (c_isBelow S (nI 3) (nI 4)) ?_
  rintro r u ⟨hr, hu⟩
  rw [hr, hu]
  clear hr hu r u
  refine x_ifB_eq 16 rfl rfl (fun hn => absurd hn (fun z => z (inr_t (by decide) (by decide)))) (fun h5 => ?_)
  refine run_ok 2 (c' := (10, [(0, .ref 0), (1, .int (nI 3)), (2, .int a), (3, .int (nI 1)), (4, .int b), (5, .int n)], [.int (nI 4), .int (nI 1)], S)) rfl ?_
  refine x_callS [.int (nI 1), .int (nI 4)] rfl cs_N_isBelow.1 lk_6_73 cs_N_isBelow.2.1 rfl rfl (Nat.le_of_ble_eq_true rfl) (by decide) cs_N_isBelow.2.2 (c_isBelow S (nI 1) (nI 4)) ?_
  rintro r u ⟨hr, hu⟩
  rw [hr, hu]
  clear hr hu r u
  refine x_ifB_ne 19 rfl rfl (fun h13 => ?_) (fun hn => absurd (inr_t (by decide) (by decide)) hn)
  refine run_ok 3 (c' := (24, [(0, .ref 0), (1, .int (nI 3)), (2, .int a), (3, .int (nI 1)), (4, .int b), (5, .int n)], [.int (nI 3), .ref 37], S)) rfl ?_
  refine x_aald (t := 44) rfl rfl (vp_in_nI (by decide) (by decide)) (by decide) ?_
  refine run_ok 4 (c' := (32, [(0, .ref 0), (1, .int (nI 3)), (2, .int a), (3, .int (nI 1)), (4, .int b), (5, .int n), (6, .ref 44)], [.int (nI 1), .ref 37], S)) rfl ?_
  refine x_aald (t := 40) rfl rfl (vp_in_nI (by decide) (by decide)) (by decide) ?_
  refine run_ok 3 (c' := (40, [(0, .ref 0), (1, .int (nI 3)), (2, .int a), (3, .int (nI 1)), (4, .int b), (5, .int n), (6, .ref 44), (7, .ref 40)], [.int (S.1 44 3)], S)) rfl ?_
  refine x_top (v' := nI lo) g3 ?_
  refine x_ifN_ne 51 rfl rfl (by omega) (fun hn => absurd hz1 hn) (fun h40 => ?_)
  refine run_ok 2 (c' := (48, [(0, .ref 0), (1, .int (nI 3)), (2, .int a), (3, .int (nI 1)), (4, .int b), (5, .int n), (6, .ref 44), (7, .ref 40)], [.int (S.1 40 3)], S)) rfl ?_
  refine x_top (v' := nI lo2) p3 ?_
  refine x_ifN_eq 57 rfl rfl (by omega) (fun h48 => ?_) (fun hn => absurd hz2 hn)
  refine run_ok 2 (c' := (62, [(0, .ref 0), (1, .int (nI 3)), (2, .int a), (3, .int (nI 1)), (4, .int b), (5, .int n), (6, .ref 44), (7, .ref 40)], [.int (S.1 44 1)], S)) rfl ?_
  refine x_top (v' := nI fm) g1 ?_
  refine run_ok 2 (c' := (67, [(0, .ref 0), (1, .int (nI 3)), (2, .int a), (3, .int (nI 1)), (4, .int b), (5, .int n), (6, .ref 44), (7, .ref 40)], [.int (S.1 40 1), .int (nI fm)], S)) rfl ?_
  refine x_top (v' := nI fm2) p1 ?_
  refine x_icmpN_eq 76 rfl rfl (by omega) (by omega) (fun h67 => ?_) (fun hn => absurd hst hn)
  refine run_ok 3 (c' := (81, [(0, .ref 0), (1, .int (nI 3)), (2, .int a), (3, .int (nI 1)), (4, .int b), (5, .int n), (6, .ref 44), (7, .ref 40)], [.int n, .int a, .ref 44], S)) rfl ?_
  refine x_callV [.int a, .int n] rfl cv_H_hasItems.1 lk_6_265 cv_H_hasItems.2.1 cv_H_hasItems.2.2.1 rfl cv_H_hasItems.2.2.2.1 rfl rfl (Nat.le_of_ble_eq_true rfl) (by decide) cv_H_hasItems.2.2.2.2 (c_hasItems3 S lo fm sz hH (a) (n)) ?_
  rintro r x ⟨hr, hu⟩
  rw [hr, hu]
  clear hr hu r x
  refine x_ifB_eq 99 rfl rfl (fun h84 => ?_) (fun h84 => ?_)
  · refine run_ok 2 (c' := (101, [(0, .ref 0), (1, .int (nI 3)), (2, .int a), (3, .int (nI 1)), (4, .int b), (5, .int n), (6, .ref 44), (7, .ref 40)], [.int (nI 2), .ref 0], S)) rfl ?_
    refine x_callV [.int (nI 2)] rfl cv_N_find.1 lk_6_134 cv_N_find.2.1 cv_N_find.2.2.1 rfl cv_N_find.2.2.2.1 rfl rfl (Nat.le_of_ble_eq_true rfl) (by decide) cv_N_find.2.2.2.2 (c_find S (2)) ?_
    rintro r x ⟨hr, hu⟩
    rw [hr, hu]
    clear hr hu r x
    exact x_ret (r := some (.int ((-10) - nI 2))) rfl rfl trivial ⟨rfl, rfl⟩ rfl
  · refine run_ok 3 (c' := (93, [(0, .ref 0), (1, .int (nI 3)), (2, .int a), (3, .int (nI 1)), (4, .int b), (5, .int n), (6, .ref 44), (7, .ref 40)], [.int n, .int b, .ref 40], S)) rfl ?_
    refine x_callV [.int b, .int n] rfl cv_H_hasItems.1 lk_6_265 cv_H_hasItems.2.1 cv_H_hasItems.2.2.1 rfl cv_H_hasItems.2.2.2.1 rfl rfl (Nat.le_of_ble_eq_true rfl) (by decide) cv_H_hasItems.2.2.2.2 (c_hasItems1 S lo2 fm2 sz2 hH2 (b) (n)) ?_
    rintro r x ⟨hr, hu⟩
    rw [hr, hu]
    clear hr hu r x
    refine x_ifB_ne 105 rfl rfl (fun h96 => ?_) (fun h96 => ?_)
    · exact absurd ⟨h84, h96⟩ hix
    · refine run_ok 2 (c' := (101, [(0, .ref 0), (1, .int (nI 3)), (2, .int a), (3, .int (nI 1)), (4, .int b), (5, .int n), (6, .ref 44), (7, .ref 40)], [.int (nI 2), .ref 0], S)) rfl ?_
      refine x_callV [.int (nI 2)] rfl cv_N_find.1 lk_6_134 cv_N_find.2.1 cv_N_find.2.2.1 rfl cv_N_find.2.2.2.1 rfl rfl (Nat.le_of_ble_eq_true rfl) (by decide) cv_N_find.2.2.2.2 (c_find S (2)) ?_
      rintro r x ⟨hr, hu⟩
      rw [hr, hu]
      clear hr hu r x
      exact x_ret (r := some (.int ((-10) - nI 2))) rfl rfl trivial ⟨rfl, rfl⟩ rfl

set_option maxHeartbeats 2000000 in
theorem c_copy_ok31 (S : ST) (lo fm sz : Nat) (hH : HR 44 lo fm sz S) (lo2 fm2 sz2 : Nat) (hH2 : HR 40 lo2 fm2 sz2 S) (a b n : Nat) (hz1 : lo = 0) (hz2 : lo2 = 0) (hst : fm = fm2) (ha : a + n ≤ sz) (hb : b + n ≤ sz2) : EX me_N_copy 2 [.ref 0, .int (nI 3), .int (nI a), .int (nI 1), .int (nI b), .int (nI n)] S (fun r u => r = some (.int 1) ∧ u = rwr S 41 (va_cpy (S.1 45) (S.1 41) a b n)) := by
  refine EX.of mok_N_copy (Nat.le_of_ble_eq_true rfl) ?_
  obtain ⟨g3, g1, g2, hl1, hf2, hs60⟩ := id hH
  obtain ⟨p3, p1, p2, pl1, pf2, ps60⟩ := id hH2
  refine run_ok 2 (c' := (2, [(0, .ref 0), (1, .int (nI 3)), (2, .int (nI a)), (3, .int (nI 1)), (4, .int (nI b)), (5, .int (nI n))], [.int (nI 4), .int (nI 3)], S)) rfl ?_
  refine x_callS [.int (nI 3), .int (nI 4)] rfl cs_N_isBelow.1 lk_6_73 cs_N_isBelow.2.1 rfl rfl (Nat.le_of_ble_eq_true rfl) (by decide) cs_N_isBelow.2.2 (c_isBelow S (nI 3) (nI 4)) ?_
  rintro r u ⟨hr, hu⟩
  rw [hr, hu]
  clear hr hu r u
  refine x_ifB_eq 16 rfl rfl (fun hn => absurd hn (fun z => z (inr_t (by decide) (by decide)))) (fun h5 => ?_)
  refine run_ok 2 (c' := (10, [(0, .ref 0), (1, .int (nI 3)), (2, .int (nI a)), (3, .int (nI 1)), (4, .int (nI b)), (5, .int (nI n))], [.int (nI 4), .int (nI 1)], S)) rfl ?_
  refine x_callS [.int (nI 1), .int (nI 4)] rfl cs_N_isBelow.1 lk_6_73 cs_N_isBelow.2.1 rfl rfl (Nat.le_of_ble_eq_true rfl) (by decide) cs_N_isBelow.2.2 (c_isBelow S (nI 1) (nI 4)) ?_
  rintro r u ⟨hr, hu⟩
  rw [hr, hu]
  clear hr hu r u
  refine x_ifB_ne 19 rfl rfl (fun h13 => ?_) (fun hn => absurd (inr_t (by decide) (by decide)) hn)
  refine run_ok 3 (c' := (24, [(0, .ref 0), (1, .int (nI 3)), (2, .int (nI a)), (3, .int (nI 1)), (4, .int (nI b)), (5, .int (nI n))], [.int (nI 3), .ref 37], S)) rfl ?_
  refine x_aald (t := 44) rfl rfl (vp_in_nI (by decide) (by decide)) (by decide) ?_
  refine run_ok 4 (c' := (32, [(0, .ref 0), (1, .int (nI 3)), (2, .int (nI a)), (3, .int (nI 1)), (4, .int (nI b)), (5, .int (nI n)), (6, .ref 44)], [.int (nI 1), .ref 37], S)) rfl ?_
  refine x_aald (t := 40) rfl rfl (vp_in_nI (by decide) (by decide)) (by decide) ?_
  refine run_ok 3 (c' := (40, [(0, .ref 0), (1, .int (nI 3)), (2, .int (nI a)), (3, .int (nI 1)), (4, .int (nI b)), (5, .int (nI n)), (6, .ref 44), (7, .ref 40)], [.int (S.1 44 3)], S)) rfl ?_
  refine x_top (v' := nI lo) g3 ?_
  refine x_ifN_ne 51 rfl rfl (by omega) (fun hn => absurd hz1 hn) (fun h40 => ?_)
  refine run_ok 2 (c' := (48, [(0, .ref 0), (1, .int (nI 3)), (2, .int (nI a)), (3, .int (nI 1)), (4, .int (nI b)), (5, .int (nI n)), (6, .ref 44), (7, .ref 40)], [.int (S.1 40 3)], S)) rfl ?_
  refine x_top (v' := nI lo2) p3 ?_
  refine x_ifN_eq 57 rfl rfl (by omega) (fun h48 => ?_) (fun hn => absurd hz2 hn)
  refine run_ok 2 (c' := (62, [(0, .ref 0), (1, .int (nI 3)), (2, .int (nI a)), (3, .int (nI 1)), (4, .int (nI b)), (5, .int (nI n)), (6, .ref 44), (7, .ref 40)], [.int (S.1 44 1)], S)) rfl ?_
  refine x_top (v' := nI fm) g1 ?_
  refine run_ok 2 (c' := (67, [(0, .ref 0), (1, .int (nI 3)), (2, .int (nI a)), (3, .int (nI 1)), (4, .int (nI b)), (5, .int (nI n)), (6, .ref 44), (7, .ref 40)], [.int (S.1 40 1), .int (nI fm)], S)) rfl ?_
  refine x_top (v' := nI fm2) p1 ?_
  refine x_icmpN_eq 76 rfl rfl (by omega) (by omega) (fun h67 => ?_) (fun hn => absurd hst hn)
  refine run_ok 3 (c' := (81, [(0, .ref 0), (1, .int (nI 3)), (2, .int (nI a)), (3, .int (nI 1)), (4, .int (nI b)), (5, .int (nI n)), (6, .ref 44), (7, .ref 40)], [.int (nI n), .int (nI a), .ref 44], S)) rfl ?_
  refine x_callV [.int (nI a), .int (nI n)] rfl cv_H_hasItems.1 lk_6_265 cv_H_hasItems.2.1 cv_H_hasItems.2.2.1 rfl cv_H_hasItems.2.2.2.1 rfl rfl (Nat.le_of_ble_eq_true rfl) (by decide) cv_H_hasItems.2.2.2.2 (c_hasItems3 S lo fm sz hH (nI a) (nI n)) ?_
  rintro r x ⟨hr, hu⟩
  rw [hr, hu]
  clear hr hu r x
  refine x_ifB_eq 99 rfl rfl (fun hn => absurd hn (fun z => z (hasI_t ha hs60))) (fun h84 => ?_)
  refine run_ok 3 (c' := (93, [(0, .ref 0), (1, .int (nI 3)), (2, .int (nI a)), (3, .int (nI 1)), (4, .int (nI b)), (5, .int (nI n)), (6, .ref 44), (7, .ref 40)], [.int (nI n), .int (nI b), .ref 40], S)) rfl ?_
  refine x_callV [.int (nI b), .int (nI n)] rfl cv_H_hasItems.1 lk_6_265 cv_H_hasItems.2.1 cv_H_hasItems.2.2.1 rfl cv_H_hasItems.2.2.2.1 rfl rfl (Nat.le_of_ble_eq_true rfl) (by decide) cv_H_hasItems.2.2.2.2 (c_hasItems1 S lo2 fm2 sz2 hH2 (nI b) (nI n)) ?_
  rintro r x ⟨hr, hu⟩
  rw [hr, hu]
  clear hr hu r x
  refine x_ifB_ne 105 rfl rfl (fun h96 => ?_) (fun hn => absurd (hasI_t hb ps60) hn)
  refine run_ok 7 (c' := (120, [(0, .ref 0), (1, .int (nI 3)), (2, .int (nI a)), (3, .int (nI 1)), (4, .int (nI b)), (5, .int (nI n)), (6, .ref 44), (7, .ref 40)], [.int (nI n), .int (nI b), .ref 41, .int (nI a), .ref 45], S)) rfl ?_
  refine x_copyN rfl lk_6_268 rfl rfl (by decide) (by decide) (by omega) (by omega) (Nat.le_of_ble_eq_true rfl) (by decide) ?_
  refine run_ok 1 (c' := (124, [(0, .ref 0), (1, .int (nI 3)), (2, .int (nI a)), (3, .int (nI 1)), (4, .int (nI b)), (5, .int (nI n)), (6, .ref 44), (7, .ref 40)], [.int (nI 1)], (rwr S 41 (va_cpy (S.1 45) (S.1 41) a b n)))) rfl ?_
  exact x_ret (r := some (.int (nI 1))) rfl rfl trivial ⟨rfl, rfl⟩ rfl

set_option maxHeartbeats 2000000 in
theorem c_copy_null32 (S : ST) (lo fm sz : Nat) (hH : HR 44 lo fm sz S) (lo2 fm2 sz2 : Nat) (hH2 : HR 42 lo2 fm2 sz2 S) (a b n : Int32) (hnl : ¬ (lo = 0 ∧ lo2 = 0)) : EX me_N_copy 2 [.ref 0, .int (nI 3), .int a, .int (nI 2), .int b, .int n] S (fun r u => r = some (.int ((-10) - nI 1)) ∧ u = pt S 0 10 (nI 1)) := by
  refine EX.of mok_N_copy (Nat.le_of_ble_eq_true rfl) ?_
  obtain ⟨g3, g1, g2, hl1, hf2, hs60⟩ := id hH
  obtain ⟨p3, p1, p2, pl1, pf2, ps60⟩ := id hH2
  refine run_ok 2 (c' := (2, [(0, .ref 0), (1, .int (nI 3)), (2, .int a), (3, .int (nI 2)), (4, .int b), (5, .int n)], [.int (nI 4), .int (nI 3)], S)) rfl ?_
  refine x_callS [.int (nI 3), .int (nI 4)] rfl cs_N_isBelow.1 lk_6_73 cs_N_isBelow.2.1 rfl rfl (Nat.le_of_ble_eq_true rfl) (by decide) cs_N_isBelow.2.2 (c_isBelow S (nI 3) (nI 4)) ?_
  rintro r u ⟨hr, hu⟩
  rw [hr, hu]
  clear hr hu r u
  refine x_ifB_eq 16 rfl rfl (fun hn => absurd hn (fun z => z (inr_t (by decide) (by decide)))) (fun h5 => ?_)
  refine run_ok 2 (c' := (10, [(0, .ref 0), (1, .int (nI 3)), (2, .int a), (3, .int (nI 2)), (4, .int b), (5, .int n)], [.int (nI 4), .int (nI 2)], S)) rfl ?_
  refine x_callS [.int (nI 2), .int (nI 4)] rfl cs_N_isBelow.1 lk_6_73 cs_N_isBelow.2.1 rfl rfl (Nat.le_of_ble_eq_true rfl) (by decide) cs_N_isBelow.2.2 (c_isBelow S (nI 2) (nI 4)) ?_
  rintro r u ⟨hr, hu⟩
  rw [hr, hu]
  clear hr hu r u
  refine x_ifB_ne 19 rfl rfl (fun h13 => ?_) (fun hn => absurd (inr_t (by decide) (by decide)) hn)
  refine run_ok 3 (c' := (24, [(0, .ref 0), (1, .int (nI 3)), (2, .int a), (3, .int (nI 2)), (4, .int b), (5, .int n)], [.int (nI 3), .ref 37], S)) rfl ?_
  refine x_aald (t := 44) rfl rfl (vp_in_nI (by decide) (by decide)) (by decide) ?_
  refine run_ok 4 (c' := (32, [(0, .ref 0), (1, .int (nI 3)), (2, .int a), (3, .int (nI 2)), (4, .int b), (5, .int n), (6, .ref 44)], [.int (nI 2), .ref 37], S)) rfl ?_
  refine x_aald (t := 42) rfl rfl (vp_in_nI (by decide) (by decide)) (by decide) ?_
  refine run_ok 3 (c' := (40, [(0, .ref 0), (1, .int (nI 3)), (2, .int a), (3, .int (nI 2)), (4, .int b), (5, .int n), (6, .ref 44), (7, .ref 42)], [.int (S.1 44 3)], S)) rfl ?_
  refine x_top (v' := nI lo) g3 ?_
  refine x_ifN_ne 51 rfl rfl (by omega) (fun h40 => ?_) (fun h40 => ?_)
  · refine run_ok 2 (c' := (53, [(0, .ref 0), (1, .int (nI 3)), (2, .int a), (3, .int (nI 2)), (4, .int b), (5, .int n), (6, .ref 44), (7, .ref 42)], [.int (nI 1), .ref 0], S)) rfl ?_
    refine x_callV [.int (nI 1)] rfl cv_N_find.1 lk_6_134 cv_N_find.2.1 cv_N_find.2.2.1 rfl cv_N_find.2.2.2.1 rfl rfl (Nat.le_of_ble_eq_true rfl) (by decide) cv_N_find.2.2.2.2 (c_find S (1)) ?_
    rintro r x ⟨hr, hu⟩
    rw [hr, hu]
    clear hr hu r x
    exact x_ret (r := some (.int ((-10) - nI 1))) rfl rfl trivial ⟨rfl, rfl⟩ rfl
  · refine run_ok 2 (c' := (48, [(0, .ref 0), (1, .int (nI 3)), (2, .int a), (3, .int (nI 2)), (4, .int b), (5, .int n), (6, .ref 44), (7, .ref 42)], [.int (S.1 42 3)], S)) rfl ?_
    refine x_top (v' := nI lo2) p3 ?_
    refine x_ifN_eq 57 rfl rfl (by omega) (fun h48 => ?_) (fun h48 => ?_)
    · exact absurd hnl (by omega)
    · refine run_ok 2 (c' := (53, [(0, .ref 0), (1, .int (nI 3)), (2, .int a), (3, .int (nI 2)), (4, .int b), (5, .int n), (6, .ref 44), (7, .ref 42)], [.int (nI 1), .ref 0], S)) rfl ?_
      refine x_callV [.int (nI 1)] rfl cv_N_find.1 lk_6_134 cv_N_find.2.1 cv_N_find.2.2.1 rfl cv_N_find.2.2.2.1 rfl rfl (Nat.le_of_ble_eq_true rfl) (by decide) cv_N_find.2.2.2.2 (c_find S (1)) ?_
      rintro r x ⟨hr, hu⟩
      rw [hr, hu]
      clear hr hu r x
      exact x_ret (r := some (.int ((-10) - nI 1))) rfl rfl trivial ⟨rfl, rfl⟩ rfl

set_option maxHeartbeats 2000000 in
theorem c_copy_store32 (S : ST) (lo fm sz : Nat) (hH : HR 44 lo fm sz S) (lo2 fm2 sz2 : Nat) (hH2 : HR 42 lo2 fm2 sz2 S) (a b n : Int32) (hz1 : lo = 0) (hz2 : lo2 = 0) (hst : ¬ fm = fm2) : EX me_N_copy 2 [.ref 0, .int (nI 3), .int a, .int (nI 2), .int b, .int n] S (fun r u => r = some (.int ((-10) - nI 4)) ∧ u = pt S 0 10 (nI 4)) := by
  refine EX.of mok_N_copy (Nat.le_of_ble_eq_true rfl) ?_
  obtain ⟨g3, g1, g2, hl1, hf2, hs60⟩ := id hH
  obtain ⟨p3, p1, p2, pl1, pf2, ps60⟩ := id hH2
  refine run_ok 2 (c' := (2, [(0, .ref 0), (1, .int (nI 3)), (2, .int a), (3, .int (nI 2)), (4, .int b), (5, .int n)], [.int (nI 4), .int (nI 3)], S)) rfl ?_
  refine x_callS [.int (nI 3), .int (nI 4)] rfl cs_N_isBelow.1 lk_6_73 cs_N_isBelow.2.1 rfl rfl (Nat.le_of_ble_eq_true rfl) (by decide) cs_N_isBelow.2.2 (c_isBelow S (nI 3) (nI 4)) ?_
  rintro r u ⟨hr, hu⟩
  rw [hr, hu]
  clear hr hu r u
  refine x_ifB_eq 16 rfl rfl (fun hn => absurd hn (fun z => z (inr_t (by decide) (by decide)))) (fun h5 => ?_)
  refine run_ok 2 (c' := (10, [(0, .ref 0), (1, .int (nI 3)), (2, .int a), (3, .int (nI 2)), (4, .int b), (5, .int n)], [.int (nI 4), .int (nI 2)], S)) rfl ?_
  refine x_callS [.int (nI 2), .int (nI 4)] rfl cs_N_isBelow.1 lk_6_73 cs_N_isBelow.2.1 rfl rfl (Nat.le_of_ble_eq_true rfl) (by decide) cs_N_isBelow.2.2 (c_isBelow S (nI 2) (nI 4)) ?_
  rintro r u ⟨hr, hu⟩
  rw [hr, hu]
  clear hr hu r u
  refine x_ifB_ne 19 rfl rfl (fun h13 => ?_) (fun hn => absurd (inr_t (by decide) (by decide)) hn)
  refine run_ok 3 (c' := (24, [(0, .ref 0), (1, .int (nI 3)), (2, .int a), (3, .int (nI 2)), (4, .int b), (5, .int n)], [.int (nI 3), .ref 37], S)) rfl ?_
  refine x_aald (t := 44) rfl rfl (vp_in_nI (by decide) (by decide)) (by decide) ?_
  refine run_ok 4 (c' := (32, [(0, .ref 0), (1, .int (nI 3)), (2, .int a), (3, .int (nI 2)), (4, .int b), (5, .int n), (6, .ref 44)], [.int (nI 2), .ref 37], S)) rfl ?_
  refine x_aald (t := 42) rfl rfl (vp_in_nI (by decide) (by decide)) (by decide) ?_
  refine run_ok 3 (c' := (40, [(0, .ref 0), (1, .int (nI 3)), (2, .int a), (3, .int (nI 2)), (4, .int b), (5, .int n), (6, .ref 44), (7, .ref 42)], [.int (S.1 44 3)], S)) rfl ?_
  refine x_top (v' := nI lo) g3 ?_
  refine x_ifN_ne 51 rfl rfl (by omega) (fun hn => absurd hz1 hn) (fun h40 => ?_)
  refine run_ok 2 (c' := (48, [(0, .ref 0), (1, .int (nI 3)), (2, .int a), (3, .int (nI 2)), (4, .int b), (5, .int n), (6, .ref 44), (7, .ref 42)], [.int (S.1 42 3)], S)) rfl ?_
  refine x_top (v' := nI lo2) p3 ?_
  refine x_ifN_eq 57 rfl rfl (by omega) (fun h48 => ?_) (fun hn => absurd hz2 hn)
  refine run_ok 2 (c' := (62, [(0, .ref 0), (1, .int (nI 3)), (2, .int a), (3, .int (nI 2)), (4, .int b), (5, .int n), (6, .ref 44), (7, .ref 42)], [.int (S.1 44 1)], S)) rfl ?_
  refine x_top (v' := nI fm) g1 ?_
  refine run_ok 2 (c' := (67, [(0, .ref 0), (1, .int (nI 3)), (2, .int a), (3, .int (nI 2)), (4, .int b), (5, .int n), (6, .ref 44), (7, .ref 42)], [.int (S.1 42 1), .int (nI fm)], S)) rfl ?_
  refine x_top (v' := nI fm2) p1 ?_
  refine x_icmpN_eq 76 rfl rfl (by omega) (by omega) (fun hn => absurd hn hst) (fun h67 => ?_)
  refine run_ok 2 (c' := (72, [(0, .ref 0), (1, .int (nI 3)), (2, .int a), (3, .int (nI 2)), (4, .int b), (5, .int n), (6, .ref 44), (7, .ref 42)], [.int (nI 4), .ref 0], S)) rfl ?_
  refine x_callV [.int (nI 4)] rfl cv_N_find.1 lk_6_134 cv_N_find.2.1 cv_N_find.2.2.1 rfl cv_N_find.2.2.2.1 rfl rfl (Nat.le_of_ble_eq_true rfl) (by decide) cv_N_find.2.2.2.2 (c_find S (4)) ?_
  rintro r x ⟨hr, hu⟩
  rw [hr, hu]
  clear hr hu r x
  exact x_ret (r := some (.int ((-10) - nI 4))) rfl rfl trivial ⟨rfl, rfl⟩ rfl

set_option maxHeartbeats 2000000 in
theorem c_copy_index32 (S : ST) (lo fm sz : Nat) (hH : HR 44 lo fm sz S) (lo2 fm2 sz2 : Nat) (hH2 : HR 42 lo2 fm2 sz2 S) (a b n : Int32) (hz1 : lo = 0) (hz2 : lo2 = 0) (hst : fm = fm2) (hix : ¬ (hasI sz a n ∧ hasI sz2 b n)) : EX me_N_copy 2 [.ref 0, .int (nI 3), .int a, .int (nI 2), .int b, .int n] S (fun r u => r = some (.int ((-10) - nI 2)) ∧ u = pt S 0 10 (nI 2)) := by
  refine EX.of mok_N_copy (Nat.le_of_ble_eq_true rfl) ?_
  obtain ⟨g3, g1, g2, hl1, hf2, hs60⟩ := id hH
  obtain ⟨p3, p1, p2, pl1, pf2, ps60⟩ := id hH2
  refine run_ok 2 (c' := (2, [(0, .ref 0), (1, .int (nI 3)), (2, .int a), (3, .int (nI 2)), (4, .int b), (5, .int n)], [.int (nI 4), .int (nI 3)], S)) rfl ?_
  refine x_callS [.int (nI 3), .int (nI 4)] rfl cs_N_isBelow.1 lk_6_73 cs_N_isBelow.2.1 rfl rfl (Nat.le_of_ble_eq_true rfl) (by decide) cs_N_isBelow.2.2 (c_isBelow S (nI 3) (nI 4)) ?_
  rintro r u ⟨hr, hu⟩
  rw [hr, hu]
  clear hr hu r u
  refine x_ifB_eq 16 rfl rfl (fun hn => absurd hn (fun z => z (inr_t (by decide) (by decide)))) (fun h5 => ?_)
  refine run_ok 2 (c' := (10, [(0, .ref 0), (1, .int (nI 3)), (2, .int a), (3, .int (nI 2)), (4, .int b), (5, .int n)], [.int (nI 4), .int (nI 2)], S)) rfl ?_
  refine x_callS [.int (nI 2), .int (nI 4)] rfl cs_N_isBelow.1 lk_6_73 cs_N_isBelow.2.1 rfl rfl (Nat.le_of_ble_eq_true rfl) (by decide) cs_N_isBelow.2.2 (c_isBelow S (nI 2) (nI 4)) ?_
  rintro r u ⟨hr, hu⟩
  rw [hr, hu]
  clear hr hu r u
  refine x_ifB_ne 19 rfl rfl (fun h13 => ?_) (fun hn => absurd (inr_t (by decide) (by decide)) hn)
  refine run_ok 3 (c' := (24, [(0, .ref 0), (1, .int (nI 3)), (2, .int a), (3, .int (nI 2)), (4, .int b), (5, .int n)], [.int (nI 3), .ref 37], S)) rfl ?_
  refine x_aald (t := 44) rfl rfl (vp_in_nI (by decide) (by decide)) (by decide) ?_
  refine run_ok 4 (c' := (32, [(0, .ref 0), (1, .int (nI 3)), (2, .int a), (3, .int (nI 2)), (4, .int b), (5, .int n), (6, .ref 44)], [.int (nI 2), .ref 37], S)) rfl ?_
  refine x_aald (t := 42) rfl rfl (vp_in_nI (by decide) (by decide)) (by decide) ?_
  refine run_ok 3 (c' := (40, [(0, .ref 0), (1, .int (nI 3)), (2, .int a), (3, .int (nI 2)), (4, .int b), (5, .int n), (6, .ref 44), (7, .ref 42)], [.int (S.1 44 3)], S)) rfl ?_
  refine x_top (v' := nI lo) g3 ?_
  refine x_ifN_ne 51 rfl rfl (by omega) (fun hn => absurd hz1 hn) (fun h40 => ?_)
  refine run_ok 2 (c' := (48, [(0, .ref 0), (1, .int (nI 3)), (2, .int a), (3, .int (nI 2)), (4, .int b), (5, .int n), (6, .ref 44), (7, .ref 42)], [.int (S.1 42 3)], S)) rfl ?_
  refine x_top (v' := nI lo2) p3 ?_
  refine x_ifN_eq 57 rfl rfl (by omega) (fun h48 => ?_) (fun hn => absurd hz2 hn)
  refine run_ok 2 (c' := (62, [(0, .ref 0), (1, .int (nI 3)), (2, .int a), (3, .int (nI 2)), (4, .int b), (5, .int n), (6, .ref 44), (7, .ref 42)], [.int (S.1 44 1)], S)) rfl ?_
  refine x_top (v' := nI fm) g1 ?_
  refine run_ok 2 (c' := (67, [(0, .ref 0), (1, .int (nI 3)), (2, .int a), (3, .int (nI 2)), (4, .int b), (5, .int n), (6, .ref 44), (7, .ref 42)], [.int (S.1 42 1), .int (nI fm)], S)) rfl ?_
  refine x_top (v' := nI fm2) p1 ?_
  refine x_icmpN_eq 76 rfl rfl (by omega) (by omega) (fun h67 => ?_) (fun hn => absurd hst hn)
  refine run_ok 3 (c' := (81, [(0, .ref 0), (1, .int (nI 3)), (2, .int a), (3, .int (nI 2)), (4, .int b), (5, .int n), (6, .ref 44), (7, .ref 42)], [.int n, .int a, .ref 44], S)) rfl ?_
  refine x_callV [.int a, .int n] rfl cv_H_hasItems.1 lk_6_265 cv_H_hasItems.2.1 cv_H_hasItems.2.2.1 rfl cv_H_hasItems.2.2.2.1 rfl rfl (Nat.le_of_ble_eq_true rfl) (by decide) cv_H_hasItems.2.2.2.2 (c_hasItems3 S lo fm sz hH (a) (n)) ?_
  rintro r x ⟨hr, hu⟩
  rw [hr, hu]
  clear hr hu r x
  refine x_ifB_eq 99 rfl rfl (fun h84 => ?_) (fun h84 => ?_)
  · refine run_ok 2 (c' := (101, [(0, .ref 0), (1, .int (nI 3)), (2, .int a), (3, .int (nI 2)), (4, .int b), (5, .int n), (6, .ref 44), (7, .ref 42)], [.int (nI 2), .ref 0], S)) rfl ?_
    refine x_callV [.int (nI 2)] rfl cv_N_find.1 lk_6_134 cv_N_find.2.1 cv_N_find.2.2.1 rfl cv_N_find.2.2.2.1 rfl rfl (Nat.le_of_ble_eq_true rfl) (by decide) cv_N_find.2.2.2.2 (c_find S (2)) ?_
    rintro r x ⟨hr, hu⟩
    rw [hr, hu]
    clear hr hu r x
    exact x_ret (r := some (.int ((-10) - nI 2))) rfl rfl trivial ⟨rfl, rfl⟩ rfl
  · refine run_ok 3 (c' := (93, [(0, .ref 0), (1, .int (nI 3)), (2, .int a), (3, .int (nI 2)), (4, .int b), (5, .int n), (6, .ref 44), (7, .ref 42)], [.int n, .int b, .ref 42], S)) rfl ?_
    refine x_callV [.int b, .int n] rfl cv_H_hasItems.1 lk_6_265 cv_H_hasItems.2.1 cv_H_hasItems.2.2.1 rfl cv_H_hasItems.2.2.2.1 rfl rfl (Nat.le_of_ble_eq_true rfl) (by decide) cv_H_hasItems.2.2.2.2 (c_hasItems2 S lo2 fm2 sz2 hH2 (b) (n)) ?_
    rintro r x ⟨hr, hu⟩
    rw [hr, hu]
    clear hr hu r x
    refine x_ifB_ne 105 rfl rfl (fun h96 => ?_) (fun h96 => ?_)
    · exact absurd ⟨h84, h96⟩ hix
    · refine run_ok 2 (c' := (101, [(0, .ref 0), (1, .int (nI 3)), (2, .int a), (3, .int (nI 2)), (4, .int b), (5, .int n), (6, .ref 44), (7, .ref 42)], [.int (nI 2), .ref 0], S)) rfl ?_
      refine x_callV [.int (nI 2)] rfl cv_N_find.1 lk_6_134 cv_N_find.2.1 cv_N_find.2.2.1 rfl cv_N_find.2.2.2.1 rfl rfl (Nat.le_of_ble_eq_true rfl) (by decide) cv_N_find.2.2.2.2 (c_find S (2)) ?_
      rintro r x ⟨hr, hu⟩
      rw [hr, hu]
      clear hr hu r x
      exact x_ret (r := some (.int ((-10) - nI 2))) rfl rfl trivial ⟨rfl, rfl⟩ rfl

set_option maxHeartbeats 2000000 in
theorem c_copy_ok32 (S : ST) (lo fm sz : Nat) (hH : HR 44 lo fm sz S) (lo2 fm2 sz2 : Nat) (hH2 : HR 42 lo2 fm2 sz2 S) (a b n : Nat) (hz1 : lo = 0) (hz2 : lo2 = 0) (hst : fm = fm2) (ha : a + n ≤ sz) (hb : b + n ≤ sz2) : EX me_N_copy 2 [.ref 0, .int (nI 3), .int (nI a), .int (nI 2), .int (nI b), .int (nI n)] S (fun r u => r = some (.int 1) ∧ u = rwr S 43 (va_cpy (S.1 45) (S.1 43) a b n)) := by
  refine EX.of mok_N_copy (Nat.le_of_ble_eq_true rfl) ?_
  obtain ⟨g3, g1, g2, hl1, hf2, hs60⟩ := id hH
  obtain ⟨p3, p1, p2, pl1, pf2, ps60⟩ := id hH2
  refine run_ok 2 (c' := (2, [(0, .ref 0), (1, .int (nI 3)), (2, .int (nI a)), (3, .int (nI 2)), (4, .int (nI b)), (5, .int (nI n))], [.int (nI 4), .int (nI 3)], S)) rfl ?_
  refine x_callS [.int (nI 3), .int (nI 4)] rfl cs_N_isBelow.1 lk_6_73 cs_N_isBelow.2.1 rfl rfl (Nat.le_of_ble_eq_true rfl) (by decide) cs_N_isBelow.2.2 (c_isBelow S (nI 3) (nI 4)) ?_
  rintro r u ⟨hr, hu⟩
  rw [hr, hu]
  clear hr hu r u
  refine x_ifB_eq 16 rfl rfl (fun hn => absurd hn (fun z => z (inr_t (by decide) (by decide)))) (fun h5 => ?_)
  refine run_ok 2 (c' := (10, [(0, .ref 0), (1, .int (nI 3)), (2, .int (nI a)), (3, .int (nI 2)), (4, .int (nI b)), (5, .int (nI n))], [.int (nI 4), .int (nI 2)], S)) rfl ?_
  refine x_callS [.int (nI 2), .int (nI 4)] rfl cs_N_isBelow.1 lk_6_73 cs_N_isBelow.2.1 rfl rfl (Nat.le_of_ble_eq_true rfl) (by decide) cs_N_isBelow.2.2 (c_isBelow S (nI 2) (nI 4)) ?_
  rintro r u ⟨hr, hu⟩
  rw [hr, hu]
  clear hr hu r u
  refine x_ifB_ne 19 rfl rfl (fun h13 => ?_) (fun hn => absurd (inr_t (by decide) (by decide)) hn)
  refine run_ok 3 (c' := (24, [(0, .ref 0), (1, .int (nI 3)), (2, .int (nI a)), (3, .int (nI 2)), (4, .int (nI b)), (5, .int (nI n))], [.int (nI 3), .ref 37], S)) rfl ?_
  refine x_aald (t := 44) rfl rfl (vp_in_nI (by decide) (by decide)) (by decide) ?_
  refine run_ok 4 (c' := (32, [(0, .ref 0), (1, .int (nI 3)), (2, .int (nI a)), (3, .int (nI 2)), (4, .int (nI b)), (5, .int (nI n)), (6, .ref 44)], [.int (nI 2), .ref 37], S)) rfl ?_
  refine x_aald (t := 42) rfl rfl (vp_in_nI (by decide) (by decide)) (by decide) ?_
  refine run_ok 3 (c' := (40, [(0, .ref 0), (1, .int (nI 3)), (2, .int (nI a)), (3, .int (nI 2)), (4, .int (nI b)), (5, .int (nI n)), (6, .ref 44), (7, .ref 42)], [.int (S.1 44 3)], S)) rfl ?_
  refine x_top (v' := nI lo) g3 ?_
  refine x_ifN_ne 51 rfl rfl (by omega) (fun hn => absurd hz1 hn) (fun h40 => ?_)
  refine run_ok 2 (c' := (48, [(0, .ref 0), (1, .int (nI 3)), (2, .int (nI a)), (3, .int (nI 2)), (4, .int (nI b)), (5, .int (nI n)), (6, .ref 44), (7, .ref 42)], [.int (S.1 42 3)], S)) rfl ?_
  refine x_top (v' := nI lo2) p3 ?_
  refine x_ifN_eq 57 rfl rfl (by omega) (fun h48 => ?_) (fun hn => absurd hz2 hn)
  refine run_ok 2 (c' := (62, [(0, .ref 0), (1, .int (nI 3)), (2, .int (nI a)), (3, .int (nI 2)), (4, .int (nI b)), (5, .int (nI n)), (6, .ref 44), (7, .ref 42)], [.int (S.1 44 1)], S)) rfl ?_
  refine x_top (v' := nI fm) g1 ?_
  refine run_ok 2 (c' := (67, [(0, .ref 0), (1, .int (nI 3)), (2, .int (nI a)), (3, .int (nI 2)), (4, .int (nI b)), (5, .int (nI n)), (6, .ref 44), (7, .ref 42)], [.int (S.1 42 1), .int (nI fm)], S)) rfl ?_
  refine x_top (v' := nI fm2) p1 ?_
  refine x_icmpN_eq 76 rfl rfl (by omega) (by omega) (fun h67 => ?_) (fun hn => absurd hst hn)
  refine run_ok 3 (c' := (81, [(0, .ref 0), (1, .int (nI 3)), (2, .int (nI a)), (3, .int (nI 2)), (4, .int (nI b)), (5, .int (nI n)), (6, .ref 44), (7, .ref 42)], [.int (nI n), .int (nI a), .ref 44], S)) rfl ?_
  refine x_callV [.int (nI a), .int (nI n)] rfl cv_H_hasItems.1 lk_6_265 cv_H_hasItems.2.1 cv_H_hasItems.2.2.1 rfl cv_H_hasItems.2.2.2.1 rfl rfl (Nat.le_of_ble_eq_true rfl) (by decide) cv_H_hasItems.2.2.2.2 (c_hasItems3 S lo fm sz hH (nI a) (nI n)) ?_
  rintro r x ⟨hr, hu⟩
  rw [hr, hu]
  clear hr hu r x
  refine x_ifB_eq 99 rfl rfl (fun hn => absurd hn (fun z => z (hasI_t ha hs60))) (fun h84 => ?_)
  refine run_ok 3 (c' := (93, [(0, .ref 0), (1, .int (nI 3)), (2, .int (nI a)), (3, .int (nI 2)), (4, .int (nI b)), (5, .int (nI n)), (6, .ref 44), (7, .ref 42)], [.int (nI n), .int (nI b), .ref 42], S)) rfl ?_
  refine x_callV [.int (nI b), .int (nI n)] rfl cv_H_hasItems.1 lk_6_265 cv_H_hasItems.2.1 cv_H_hasItems.2.2.1 rfl cv_H_hasItems.2.2.2.1 rfl rfl (Nat.le_of_ble_eq_true rfl) (by decide) cv_H_hasItems.2.2.2.2 (c_hasItems2 S lo2 fm2 sz2 hH2 (nI b) (nI n)) ?_
  rintro r x ⟨hr, hu⟩
  rw [hr, hu]
  clear hr hu r x
  refine x_ifB_ne 105 rfl rfl (fun h96 => ?_) (fun hn => absurd (hasI_t hb ps60) hn)
  refine run_ok 7 (c' := (120, [(0, .ref 0), (1, .int (nI 3)), (2, .int (nI a)), (3, .int (nI 2)), (4, .int (nI b)), (5, .int (nI n)), (6, .ref 44), (7, .ref 42)], [.int (nI n), .int (nI b), .ref 43, .int (nI a), .ref 45], S)) rfl ?_
  refine x_copyN rfl lk_6_268 rfl rfl (by decide) (by decide) (by omega) (by omega) (Nat.le_of_ble_eq_true rfl) (by decide) ?_
  refine run_ok 1 (c' := (124, [(0, .ref 0), (1, .int (nI 3)), (2, .int (nI a)), (3, .int (nI 2)), (4, .int (nI b)), (5, .int (nI n)), (6, .ref 44), (7, .ref 42)], [.int (nI 1)], (rwr S 43 (va_cpy (S.1 45) (S.1 43) a b n)))) rfl ?_
  exact x_ret (r := some (.int (nI 1))) rfl rfl trivial ⟨rfl, rfl⟩ rfl

set_option maxHeartbeats 2000000 in
theorem c_copy_null33 (S : ST) (lo fm sz : Nat) (hH : HR 44 lo fm sz S) (a b n : Int32) (hnl : ¬ (lo = 0 ∧ lo = 0)) : EX me_N_copy 2 [.ref 0, .int (nI 3), .int a, .int (nI 3), .int b, .int n] S (fun r u => r = some (.int ((-10) - nI 1)) ∧ u = pt S 0 10 (nI 1)) := by
  refine EX.of mok_N_copy (Nat.le_of_ble_eq_true rfl) ?_
  obtain ⟨g3, g1, g2, hl1, hf2, hs60⟩ := id hH
  refine run_ok 2 (c' := (2, [(0, .ref 0), (1, .int (nI 3)), (2, .int a), (3, .int (nI 3)), (4, .int b), (5, .int n)], [.int (nI 4), .int (nI 3)], S)) rfl ?_
  refine x_callS [.int (nI 3), .int (nI 4)] rfl cs_N_isBelow.1 lk_6_73 cs_N_isBelow.2.1 rfl rfl (Nat.le_of_ble_eq_true rfl) (by decide) cs_N_isBelow.2.2 (c_isBelow S (nI 3) (nI 4)) ?_
  rintro r u ⟨hr, hu⟩
  rw [hr, hu]
  clear hr hu r u
  refine x_ifB_eq 16 rfl rfl (fun hn => absurd hn (fun z => z (inr_t (by decide) (by decide)))) (fun h5 => ?_)
  refine run_ok 2 (c' := (10, [(0, .ref 0), (1, .int (nI 3)), (2, .int a), (3, .int (nI 3)), (4, .int b), (5, .int n)], [.int (nI 4), .int (nI 3)], S)) rfl ?_
  refine x_callS [.int (nI 3), .int (nI 4)] rfl cs_N_isBelow.1 lk_6_73 cs_N_isBelow.2.1 rfl rfl (Nat.le_of_ble_eq_true rfl) (by decide) cs_N_isBelow.2.2 (c_isBelow S (nI 3) (nI 4)) ?_
  rintro r u ⟨hr, hu⟩
  rw [hr, hu]
  clear hr hu r u
  refine x_ifB_ne 19 rfl rfl (fun h13 => ?_) (fun hn => absurd (inr_t (by decide) (by decide)) hn)
  refine run_ok 3 (c' := (24, [(0, .ref 0), (1, .int (nI 3)), (2, .int a), (3, .int (nI 3)), (4, .int b), (5, .int n)], [.int (nI 3), .ref 37], S)) rfl ?_
  refine x_aald (t := 44) rfl rfl (vp_in_nI (by decide) (by decide)) (by decide) ?_
  refine run_ok 4 (c' := (32, [(0, .ref 0), (1, .int (nI 3)), (2, .int a), (3, .int (nI 3)), (4, .int b), (5, .int n), (6, .ref 44)], [.int (nI 3), .ref 37], S)) rfl ?_
  refine x_aald (t := 44) rfl rfl (vp_in_nI (by decide) (by decide)) (by decide) ?_
  refine run_ok 3 (c' := (40, [(0, .ref 0), (1, .int (nI 3)), (2, .int a), (3, .int (nI 3)), (4, .int b), (5, .int n), (6, .ref 44), (7, .ref 44)], [.int (S.1 44 3)], S)) rfl ?_
  refine x_top (v' := nI lo) g3 ?_
  refine x_ifN_ne 51 rfl rfl (by omega) (fun h40 => ?_) (fun h40 => ?_)
  · refine run_ok 2 (c' := (53, [(0, .ref 0), (1, .int (nI 3)), (2, .int a), (3, .int (nI 3)), (4, .int b), (5, .int n), (6, .ref 44), (7, .ref 44)], [.int (nI 1), .ref 0], S)) rfl ?_
    refine x_callV [.int (nI 1)] rfl cv_N_find.1 lk_6_134 cv_N_find.2.1 cv_N_find.2.2.1 rfl cv_N_find.2.2.2.1 rfl rfl (Nat.le_of_ble_eq_true rfl) (by decide) cv_N_find.2.2.2.2 (c_find S (1)) ?_
    rintro r x ⟨hr, hu⟩
    rw [hr, hu]
    clear hr hu r x
    exact x_ret (r := some (.int ((-10) - nI 1))) rfl rfl trivial ⟨rfl, rfl⟩ rfl
  · refine run_ok 2 (c' := (48, [(0, .ref 0), (1, .int (nI 3)), (2, .int a), (3, .int (nI 3)), (4, .int b), (5, .int n), (6, .ref 44), (7, .ref 44)], [.int (S.1 44 3)], S)) rfl ?_
    refine x_top (v' := nI lo) g3 ?_
    refine x_ifN_eq 57 rfl rfl (by omega) (fun h48 => ?_) (fun h48 => ?_)
    · exact absurd hnl (by omega)
    · refine run_ok 2 (c' := (53, [(0, .ref 0), (1, .int (nI 3)), (2, .int a), (3, .int (nI 3)), (4, .int b), (5, .int n), (6, .ref 44), (7, .ref 44)], [.int (nI 1), .ref 0], S)) rfl ?_
      refine x_callV [.int (nI 1)] rfl cv_N_find.1 lk_6_134 cv_N_find.2.1 cv_N_find.2.2.1 rfl cv_N_find.2.2.2.1 rfl rfl (Nat.le_of_ble_eq_true rfl) (by decide) cv_N_find.2.2.2.2 (c_find S (1)) ?_
      rintro r x ⟨hr, hu⟩
      rw [hr, hu]
      clear hr hu r x
      exact x_ret (r := some (.int ((-10) - nI 1))) rfl rfl trivial ⟨rfl, rfl⟩ rfl

set_option maxHeartbeats 2000000 in
theorem c_copy_index33 (S : ST) (lo fm sz : Nat) (hH : HR 44 lo fm sz S) (a b n : Int32) (hz1 : lo = 0) (hz2 : lo = 0) (hix : ¬ (hasI sz a n ∧ hasI sz b n)) : EX me_N_copy 2 [.ref 0, .int (nI 3), .int a, .int (nI 3), .int b, .int n] S (fun r u => r = some (.int ((-10) - nI 2)) ∧ u = pt S 0 10 (nI 2)) := by
  refine EX.of mok_N_copy (Nat.le_of_ble_eq_true rfl) ?_
  obtain ⟨g3, g1, g2, hl1, hf2, hs60⟩ := id hH
  have hst : fm = fm := rfl
  refine run_ok 2 (c' := (2, [(0, .ref 0), (1, .int (nI 3)), (2, .int a), (3, .int (nI 3)), (4, .int b), (5, .int n)], [.int (nI 4), .int (nI 3)], S)) rfl ?_
  refine x_callS [.int (nI 3), .int (nI 4)] rfl cs_N_isBelow.1 lk_6_73 cs_N_isBelow.2.1 rfl rfl (Nat.le_of_ble_eq_true rfl) (by decide) cs_N_isBelow.2.2 (c_isBelow S (nI 3) (nI 4)) ?_
  rintro r u ⟨hr, hu⟩
  rw [hr, hu]
  clear hr hu r u
  refine x_ifB_eq 16 rfl rfl (fun hn => absurd hn (fun z => z (inr_t (by decide) (by decide)))) (fun h5 => ?_)
  refine run_ok 2 (c' := (10, [(0, .ref 0), (1, .int (nI 3)), (2, .int a), (3, .int (nI 3)), (4, .int b), (5, .int n)], [.int (nI 4), .int (nI 3)], S)) rfl ?_
  refine x_callS [.int (nI 3), .int (nI 4)] rfl cs_N_isBelow.1 lk_6_73 cs_N_isBelow.2.1 rfl rfl (Nat.le_of_ble_eq_true rfl) (by decide) cs_N_isBelow.2.2 (c_isBelow S (nI 3) (nI 4)) ?_
  rintro r u ⟨hr, hu⟩
  rw [hr, hu]
  clear hr hu r u
  refine x_ifB_ne 19 rfl rfl (fun h13 => ?_) (fun hn => absurd (inr_t (by decide) (by decide)) hn)
  refine run_ok 3 (c' := (24, [(0, .ref 0), (1, .int (nI 3)), (2, .int a), (3, .int (nI 3)), (4, .int b), (5, .int n)], [.int (nI 3), .ref 37], S)) rfl ?_
  refine x_aald (t := 44) rfl rfl (vp_in_nI (by decide) (by decide)) (by decide) ?_
  refine run_ok 4 (c' := (32, [(0, .ref 0), (1, .int (nI 3)), (2, .int a), (3, .int (nI 3)), (4, .int b), (5, .int n), (6, .ref 44)], [.int (nI 3), .ref 37], S)) rfl ?_
  refine x_aald (t := 44) rfl rfl (vp_in_nI (by decide) (by decide)) (by decide) ?_
  refine run_ok 3 (c' := (40, [(0, .ref 0), (1, .int (nI 3)), (2, .int a), (3, .int (nI 3)), (4, .int b), (5, .int n), (6, .ref 44), (7, .ref 44)], [.int (S.1 44 3)], S)) rfl ?_
  refine x_top (v' := nI lo) g3 ?_
  refine x_ifN_ne 51 rfl rfl (by omega) (fun hn => absurd hz1 hn) (fun h40 => ?_)
  refine run_ok 2 (c' := (48, [(0, .ref 0), (1, .int (nI 3)), (2, .int a), (3, .int (nI 3)), (4, .int b), (5, .int n), (6, .ref 44), (7, .ref 44)], [.int (S.1 44 3)], S)) rfl ?_
  refine x_top (v' := nI lo) g3 ?_
  refine x_ifN_eq 57 rfl rfl (by omega) (fun h48 => ?_) (fun hn => absurd hz2 hn)
  refine run_ok 2 (c' := (62, [(0, .ref 0), (1, .int (nI 3)), (2, .int a), (3, .int (nI 3)), (4, .int b), (5, .int n), (6, .ref 44), (7, .ref 44)], [.int (S.1 44 1)], S)) rfl ?_
  refine x_top (v' := nI fm) g1 ?_
  refine run_ok 2 (c' := (67, [(0, .ref 0), (1, .int (nI 3)), (2, .int a), (3, .int (nI 3)), (4, .int b), (5, .int n), (6, .ref 44), (7, .ref 44)], [.int (S.1 44 1), .int (nI fm)], S)) rfl ?_
  refine x_top (v' := nI fm) g1 ?_
  refine x_icmpN_eq 76 rfl rfl (by omega) (by omega) (fun h67 => ?_) (fun hn => absurd hst hn)
  refine run_ok 3 (c' := (81, [(0, .ref 0), (1, .int (nI 3)), (2, .int a), (3, .int (nI 3)), (4, .int b), (5, .int n), (6, .ref 44), (7, .ref 44)], [.int n, .int a, .ref 44], S)) rfl ?_
  refine x_callV [.int a, .int n] rfl cv_H_hasItems.1 lk_6_265 cv_H_hasItems.2.1 cv_H_hasItems.2.2.1 rfl cv_H_hasItems.2.2.2.1 rfl rfl (Nat.le_of_ble_eq_true rfl) (by decide) cv_H_hasItems.2.2.2.2 (c_hasItems3 S lo fm sz hH (a) (n)) ?_
  rintro r x ⟨hr, hu⟩
  rw [hr, hu]
  clear hr hu r x
  refine x_ifB_eq 99 rfl rfl (fun h84 => ?_) (fun h84 => ?_)
  · refine run_ok 2 (c' := (101, [(0, .ref 0), (1, .int (nI 3)), (2, .int a), (3, .int (nI 3)), (4, .int b), (5, .int n), (6, .ref 44), (7, .ref 44)], [.int (nI 2), .ref 0], S)) rfl ?_
    refine x_callV [.int (nI 2)] rfl cv_N_find.1 lk_6_134 cv_N_find.2.1 cv_N_find.2.2.1 rfl cv_N_find.2.2.2.1 rfl rfl (Nat.le_of_ble_eq_true rfl) (by decide) cv_N_find.2.2.2.2 (c_find S (2)) ?_
    rintro r x ⟨hr, hu⟩
    rw [hr, hu]
    clear hr hu r x
    exact x_ret (r := some (.int ((-10) - nI 2))) rfl rfl trivial ⟨rfl, rfl⟩ rfl
  · refine run_ok 3 (c' := (93, [(0, .ref 0), (1, .int (nI 3)), (2, .int a), (3, .int (nI 3)), (4, .int b), (5, .int n), (6, .ref 44), (7, .ref 44)], [.int n, .int b, .ref 44], S)) rfl ?_
    refine x_callV [.int b, .int n] rfl cv_H_hasItems.1 lk_6_265 cv_H_hasItems.2.1 cv_H_hasItems.2.2.1 rfl cv_H_hasItems.2.2.2.1 rfl rfl (Nat.le_of_ble_eq_true rfl) (by decide) cv_H_hasItems.2.2.2.2 (c_hasItems3 S lo fm sz hH (b) (n)) ?_
    rintro r x ⟨hr, hu⟩
    rw [hr, hu]
    clear hr hu r x
    refine x_ifB_ne 105 rfl rfl (fun h96 => ?_) (fun h96 => ?_)
    · exact absurd ⟨h84, h96⟩ hix
    · refine run_ok 2 (c' := (101, [(0, .ref 0), (1, .int (nI 3)), (2, .int a), (3, .int (nI 3)), (4, .int b), (5, .int n), (6, .ref 44), (7, .ref 44)], [.int (nI 2), .ref 0], S)) rfl ?_
      refine x_callV [.int (nI 2)] rfl cv_N_find.1 lk_6_134 cv_N_find.2.1 cv_N_find.2.2.1 rfl cv_N_find.2.2.2.1 rfl rfl (Nat.le_of_ble_eq_true rfl) (by decide) cv_N_find.2.2.2.2 (c_find S (2)) ?_
      rintro r x ⟨hr, hu⟩
      rw [hr, hu]
      clear hr hu r x
      exact x_ret (r := some (.int ((-10) - nI 2))) rfl rfl trivial ⟨rfl, rfl⟩ rfl

set_option maxHeartbeats 2000000 in
theorem c_copy_ok33 (S : ST) (lo fm sz : Nat) (hH : HR 44 lo fm sz S) (a b n : Nat) (hz1 : lo = 0) (hz2 : lo = 0) (ha : a + n ≤ sz) (hb : b + n ≤ sz) : EX me_N_copy 2 [.ref 0, .int (nI 3), .int (nI a), .int (nI 3), .int (nI b), .int (nI n)] S (fun r u => r = some (.int 1) ∧ u = rwr S 45 (va_cpy (S.1 45) (S.1 45) a b n)) := by
  refine EX.of mok_N_copy (Nat.le_of_ble_eq_true rfl) ?_
  obtain ⟨g3, g1, g2, hl1, hf2, hs60⟩ := id hH
  have hst : fm = fm := rfl
  refine run_ok 2 (c' := (2, [(0, .ref 0), (1, .int (nI 3)), (2, .int (nI a)), (3, .int (nI 3)), (4, .int (nI b)), (5, .int (nI n))], [.int (nI 4), .int (nI 3)], S)) rfl ?_
  refine x_callS [.int (nI 3), .int (nI 4)] rfl cs_N_isBelow.1 lk_6_73 cs_N_isBelow.2.1 rfl rfl (Nat.le_of_ble_eq_true rfl) (by decide) cs_N_isBelow.2.2 (c_isBelow S (nI 3) (nI 4)) ?_
  rintro r u ⟨hr, hu⟩
  rw [hr, hu]
  clear hr hu r u
  refine x_ifB_eq 16 rfl rfl (fun hn => absurd hn (fun z => z (inr_t (by decide) (by decide)))) (fun h5 => ?_)
  refine run_ok 2 (c' := (10, [(0, .ref 0), (1, .int (nI 3)), (2, .int (nI a)), (3, .int (nI 3)), (4, .int (nI b)), (5, .int (nI n))], [.int (nI 4), .int (nI 3)], S)) rfl ?_
  refine x_callS [.int (nI 3), .int (nI 4)] rfl cs_N_isBelow.1 lk_6_73 cs_N_isBelow.2.1 rfl rfl (Nat.le_of_ble_eq_true rfl) (by decide) cs_N_isBelow.2.2 (c_isBelow S (nI 3) (nI 4)) ?_
  rintro r u ⟨hr, hu⟩
  rw [hr, hu]
  clear hr hu r u
  refine x_ifB_ne 19 rfl rfl (fun h13 => ?_) (fun hn => absurd (inr_t (by decide) (by decide)) hn)
  refine run_ok 3 (c' := (24, [(0, .ref 0), (1, .int (nI 3)), (2, .int (nI a)), (3, .int (nI 3)), (4, .int (nI b)), (5, .int (nI n))], [.int (nI 3), .ref 37], S)) rfl ?_
  refine x_aald (t := 44) rfl rfl (vp_in_nI (by decide) (by decide)) (by decide) ?_
  refine run_ok 4 (c' := (32, [(0, .ref 0), (1, .int (nI 3)), (2, .int (nI a)), (3, .int (nI 3)), (4, .int (nI b)), (5, .int (nI n)), (6, .ref 44)], [.int (nI 3), .ref 37], S)) rfl ?_
  refine x_aald (t := 44) rfl rfl (vp_in_nI (by decide) (by decide)) (by decide) ?_
  refine run_ok 3 (c' := (40, [(0, .ref 0), (1, .int (nI 3)), (2, .int (nI a)), (3, .int (nI 3)), (4, .int (nI b)), (5, .int (nI n)), (6, .ref 44), (7, .ref 44)], [.int (S.1 44 3)], S)) rfl ?_
  refine x_top (v' := nI lo) g3 ?_
  refine x_ifN_ne 51 rfl rfl (by omega) (fun hn => absurd hz1 hn) (fun h40 => ?_)
  refine run_ok 2 (c' := (48, [(0, .ref 0), (1, .int (nI 3)), (2, .int (nI a)), (3, .int (nI 3)), (4, .int (nI b)), (5, .int (nI n)), (6, .ref 44), (7, .ref 44)], [.int (S.1 44 3)], S)) rfl ?_
  refine x_top (v' := nI lo) g3 ?_
  refine x_ifN_eq 57 rfl rfl (by omega) (fun h48 => ?_) (fun hn => absurd hz2 hn)
  refine run_ok 2 (c' := (62, [(0, .ref 0), (1, .int (nI 3)), (2, .int (nI a)), (3, .int (nI 3)), (4, .int (nI b)), (5, .int (nI n)), (6, .ref 44), (7, .ref 44)], [.int (S.1 44 1)], S)) rfl ?_
  refine x_top (v' := nI fm) g1 ?_
  refine run_ok 2 (c' := (67, [(0, .ref 0), (1, .int (nI 3)), (2, .int (nI a)), (3, .int (nI 3)), (4, .int (nI b)), (5, .int (nI n)), (6, .ref 44), (7, .ref 44)], [.int (S.1 44 1), .int (nI fm)], S)) rfl ?_
  refine x_top (v' := nI fm) g1 ?_
  refine x_icmpN_eq 76 rfl rfl (by omega) (by omega) (fun h67 => ?_) (fun hn => absurd hst hn)
  refine run_ok 3 (c' := (81, [(0, .ref 0), (1, .int (nI 3)), (2, .int (nI a)), (3, .int (nI 3)), (4, .int (nI b)), (5, .int (nI n)), (6, .ref 44), (7, .ref 44)], [.int (nI n), .int (nI a), .ref 44], S)) rfl ?_
  refine x_callV [.int (nI a), .int (nI n)] rfl cv_H_hasItems.1 lk_6_265 cv_H_hasItems.2.1 cv_H_hasItems.2.2.1 rfl cv_H_hasItems.2.2.2.1 rfl rfl (Nat.le_of_ble_eq_true rfl) (by decide) cv_H_hasItems.2.2.2.2 (c_hasItems3 S lo fm sz hH (nI a) (nI n)) ?_
  rintro r x ⟨hr, hu⟩
  rw [hr, hu]
  clear hr hu r x
  refine x_ifB_eq 99 rfl rfl (fun hn => absurd hn (fun z => z (hasI_t ha hs60))) (fun h84 => ?_)
  refine run_ok 3 (c' := (93, [(0, .ref 0), (1, .int (nI 3)), (2, .int (nI a)), (3, .int (nI 3)), (4, .int (nI b)), (5, .int (nI n)), (6, .ref 44), (7, .ref 44)], [.int (nI n), .int (nI b), .ref 44], S)) rfl ?_
  refine x_callV [.int (nI b), .int (nI n)] rfl cv_H_hasItems.1 lk_6_265 cv_H_hasItems.2.1 cv_H_hasItems.2.2.1 rfl cv_H_hasItems.2.2.2.1 rfl rfl (Nat.le_of_ble_eq_true rfl) (by decide) cv_H_hasItems.2.2.2.2 (c_hasItems3 S lo fm sz hH (nI b) (nI n)) ?_
  rintro r x ⟨hr, hu⟩
  rw [hr, hu]
  clear hr hu r x
  refine x_ifB_ne 105 rfl rfl (fun h96 => ?_) (fun hn => absurd (hasI_t hb hs60) hn)
  refine run_ok 7 (c' := (120, [(0, .ref 0), (1, .int (nI 3)), (2, .int (nI a)), (3, .int (nI 3)), (4, .int (nI b)), (5, .int (nI n)), (6, .ref 44), (7, .ref 44)], [.int (nI n), .int (nI b), .ref 45, .int (nI a), .ref 45], S)) rfl ?_
  refine x_copyN rfl lk_6_268 rfl rfl (by decide) (by decide) (by omega) (by omega) (Nat.le_of_ble_eq_true rfl) (by decide) ?_
  refine run_ok 1 (c' := (124, [(0, .ref 0), (1, .int (nI 3)), (2, .int (nI a)), (3, .int (nI 3)), (4, .int (nI b)), (5, .int (nI n)), (6, .ref 44), (7, .ref 44)], [.int (nI 1)], (rwr S 45 (va_cpy (S.1 45) (S.1 45) a b n)))) rfl ?_
  exact x_ret (r := some (.int (nI 1))) rfl rfl trivial ⟨rfl, rfl⟩ rfl


/-! the model: questions of weeks -/
theorem le_pred {x : Int32} {n : Nat} (hn : n < 2147483648) : (nI 0 ≤ x ∧ x ≤ nI n - nI 1) ↔ (0 ≤ x ∧ x < nI n) := by
  cases n with
  | zero =>
    constructor
    · intro z
      exact absurd (Int32.le_trans z.1 z.2) (by decide)
    · intro z
      exact absurd (Int32.lt_of_le_of_lt z.1 z.2) (by decide)
  | succ n =>
    rw [pk_sub (by omega), Nat.add_sub_cancel]
    exact and_congr Iff.rfl (le_nI (n := n) hn)
set_option maxHeartbeats 2000000 in
theorem m_isBoat (S : ST) (T : TD) (n : Nat) (b : Nat → Nat) (n' : Nat) (b' : Nat → Nat) (hL : ML T n b n' b' S) (hto : tok T) (x : Int32) : EX me_R_isBoat 6 [.ref 48, .int x] S (fun r u => r = some (.int (b2 (0 ≤ x ∧ x < nI (tnb T)))) ∧ MR T n b u ∧ QM S u) := by
  refine EX.of mok_R_isBoat (Nat.le_of_ble_eq_true rfl) ?_
  refine run_ok 1 (c' := (1, [(0, .ref 48), (1, .int x)], [.ref 48], S)) rfl ?_
  refine x_callV [] rfl cv_R_reads.1 lk_7_153 cv_R_reads.2.1 cv_R_reads.2.2.1 rfl cv_R_reads.2.2.2.1 rfl rfl (Nat.le_of_ble_eq_true rfl) (by decide) cv_R_reads.2.2.2.2 (m_reads S n b n' b' hL.1.1 hL.1.2 hL.2.1.1 hL.2.1.2) ?_
  rintro r u ⟨hr, a1, a2, a3, a4, a5⟩
  rw [hr]
  clear hr r
  have hq : QM S u := QM.of a3 a4 a5 (by decide) (by decide)
  have hM : MR T n b u := MR.of hL a1 a2
  obtain ⟨r1, r2, r3, r4, r5, r6, r7⟩ := id hM
  refine run_ok 4 (c' := (10, [(0, .ref 48), (1, .int x)], [.int (u.1 48 5), .int (nI 0), .int x], u)) rfl ?_
  refine x_top (v' := nI (tnb T)) r6 ?_
  refine run_ok 2 (c' := (12, [(0, .ref 48), (1, .int x)], [.int ((nI (tnb T)) - (nI 1)), .int (nI 0), .int x], u)) rfl ?_
  refine x_callS [.int x, .int (nI 0), .int ((nI (tnb T)) - (nI 1))] rfl cs_R_in.1 lk_7_115 cs_R_in.2.1 rfl rfl (Nat.le_of_ble_eq_true rfl) (by decide) cs_R_in.2.2 (m_in u (x) (nI 0) ((nI (tnb T)) - (nI 1))) ?_
  rintro r u ⟨hr, hu⟩
  rw [hr, hu]
  clear hr hu r u
  exact x_ret (r := some (.int (b2 (nI 0 ≤ x ∧ x ≤ (nI (tnb T)) - (nI 1))))) rfl rfl (b2_01 _) ⟨congrArg (fun z => some (Value.int z)) (b2_c (le_pred (by have := hto.1; omega))), hM, hq⟩ rfl

set_option maxHeartbeats 2000000 in
theorem m_fault_ok0 (S : ST) (T : TD) (n : Nat) (b : Nat → Nat) (n' : Nat) (b' : Nat → Nat) (hL : ML T n b n' b' S) (hto : tok T)  : EX me_R_fault 5 [.ref 48, .int (nI 0)] S (fun r u => r = some (.int (spv (flt (okh b) 4 n))) ∧ QM S u) := by
  refine EX.of mok_R_fault (Nat.le_of_ble_eq_true rfl) ?_
  refine run_ok 1 (c' := (1, [(0, .ref 48), (1, .int (nI 0))], [.int (nI 0)], S)) rfl ?_
  refine x_callS [.int (nI 0)] rfl cs_R_isText.1 lk_7_123 cs_R_isText.2.1 rfl rfl (Nat.le_of_ble_eq_true rfl) (by decide) cs_R_isText.2.2 (m_isText S (nI 0)) ?_
  rintro r u ⟨hr, hu⟩
  rw [hr, hu]
  clear hr hu r u
  refine x_ifB_eq 15 rfl rfl (fun hn => absurd hn (fun z => z (inr_t (by decide) (by decide)))) (fun h4 => ?_)
  refine run_ok 2 (c' := (9, [(0, .ref 48), (1, .int (nI 0))], [.int (nI 0), .ref 48], S)) rfl ?_
  refine x_callV [.int (nI 0)] rfl cv_R_faultOf.1 lk_7_150 cv_R_faultOf.2.1 cv_R_faultOf.2.2.1 rfl cv_R_faultOf.2.2.2.1 rfl rfl (Nat.le_of_ble_eq_true rfl) (by decide) cv_R_faultOf.2.2.2.2 (m_faultOf0 S n b n' b' hL.1.1 hL.1.2 hL.2.1.1 hL.2.1.2) ?_
  rintro r u ⟨hr, a1, a2, a3, a4⟩
  rw [hr]
  clear hr r
  refine run_ok 1 (c' := (17, [(0, .ref 48), (1, .int (nI 0))], [.int (spv (flt (okh b) 4 n))], u)) rfl ?_
  exact x_ret (r := some (.int (spv (flt (okh b) 4 n)))) rfl rfl trivial ⟨rfl, QM.of a2 a3 a4 (by decide) (by decide)⟩ rfl

set_option maxHeartbeats 2000000 in
theorem m_fault_ok1 (S : ST) (T : TD) (n : Nat) (b : Nat → Nat) (n' : Nat) (b' : Nat → Nat) (hL : ML T n b n' b' S) (hto : tok T)  : EX me_R_fault 5 [.ref 48, .int (nI 1)] S (fun r u => r = some (.int (spv (flt (okb b') 5 n'))) ∧ QM S u) := by
  refine EX.of mok_R_fault (Nat.le_of_ble_eq_true rfl) ?_
  refine run_ok 1 (c' := (1, [(0, .ref 48), (1, .int (nI 1))], [.int (nI 1)], S)) rfl ?_
  refine x_callS [.int (nI 1)] rfl cs_R_isText.1 lk_7_123 cs_R_isText.2.1 rfl rfl (Nat.le_of_ble_eq_true rfl) (by decide) cs_R_isText.2.2 (m_isText S (nI 1)) ?_
  rintro r u ⟨hr, hu⟩
  rw [hr, hu]
  clear hr hu r u
  refine x_ifB_eq 15 rfl rfl (fun hn => absurd hn (fun z => z (inr_t (by decide) (by decide)))) (fun h4 => ?_)
  refine run_ok 2 (c' := (9, [(0, .ref 48), (1, .int (nI 1))], [.int (nI 1), .ref 48], S)) rfl ?_
  refine x_callV [.int (nI 1)] rfl cv_R_faultOf.1 lk_7_150 cv_R_faultOf.2.1 cv_R_faultOf.2.2.1 rfl cv_R_faultOf.2.2.2.1 rfl rfl (Nat.le_of_ble_eq_true rfl) (by decide) cv_R_faultOf.2.2.2.2 (m_faultOf1 S n b n' b' hL.1.1 hL.1.2 hL.2.1.1 hL.2.1.2) ?_
  rintro r u ⟨hr, a1, a2, a3, a4⟩
  rw [hr]
  clear hr r
  refine run_ok 1 (c' := (17, [(0, .ref 48), (1, .int (nI 1))], [.int (spv (flt (okb b') 5 n'))], u)) rfl ?_
  exact x_ret (r := some (.int (spv (flt (okb b') 5 n')))) rfl rfl trivial ⟨rfl, QM.of a2 a3 a4 (by decide) (by decide)⟩ rfl

set_option maxHeartbeats 2000000 in
theorem m_fault_bad (S : ST) (T : TD) (n : Nat) (b : Nat → Nat) (n' : Nat) (b' : Nat → Nat) (hL : ML T n b n' b' S) (hto : tok T) (x : Int32) (hbad : ¬ (0 ≤ x ∧ x < nI 2)) : EX me_R_fault 5 [.ref 48, .int x] S (fun r u => r = some (.int ((-2))) ∧ QM S u) := by
  refine EX.of mok_R_fault (Nat.le_of_ble_eq_true rfl) ?_
  refine run_ok 1 (c' := (1, [(0, .ref 48), (1, .int x)], [.int x], S)) rfl ?_
  refine x_callS [.int x] rfl cs_R_isText.1 lk_7_123 cs_R_isText.2.1 rfl rfl (Nat.le_of_ble_eq_true rfl) (by decide) cs_R_isText.2.2 (m_isText S (x)) ?_
  rintro r u ⟨hr, hu⟩
  rw [hr, hu]
  clear hr hu r u
  refine x_ifB_eq 15 rfl rfl (fun h4 => ?_) (fun h4 => ?_)
  · refine run_ok 1 (c' := (17, [(0, .ref 48), (1, .int x)], [.int (-2)], S)) rfl ?_
    exact x_ret (r := some (.int (-2))) rfl rfl trivial ⟨rfl, QM.rf⟩ rfl
  · exact absurd h4 hbad

set_option maxHeartbeats 2000000 in
theorem m_toldOf (S : ST) (T : TD) (n : Nat) (b : Nat → Nat) (n' : Nat) (b' : Nat → Nat) (hL : ML T n b n' b' S) (hto : tok T) (p q : Nat) (hp : p < 8) (hq8 : q < 8) : EX me_R_toldOf 6 [.ref 48, .int (nI p), .int (nI q)] S (fun r u => r = some (.int (nI (th T (8 * p + q)))) ∧ QM S u) := by
  refine EX.of mok_R_toldOf (Nat.le_of_ble_eq_true rfl) ?_
  refine run_ok 1 (c' := (1, [(0, .ref 48), (1, .int (nI p)), (2, .int (nI q))], [.ref 48], S)) rfl ?_
  refine x_callV [] rfl cv_R_reads.1 lk_7_153 cv_R_reads.2.1 cv_R_reads.2.2.1 rfl cv_R_reads.2.2.2.1 rfl rfl (Nat.le_of_ble_eq_true rfl) (by decide) cv_R_reads.2.2.2.2 (m_reads S n b n' b' hL.1.1 hL.1.2 hL.2.1.1 hL.2.1.2) ?_
  rintro r u ⟨hr, a1, a2, a3, a4, a5⟩
  rw [hr]
  clear hr r
  have hq : QM S u := QM.of a3 a4 a5 (by decide) (by decide)
  have hM : MR T n b u := MR.of hL a1 a2
  obtain ⟨r1, r2, r3, r4, r5, r6, r7⟩ := id hM
  refine run_ok 5 (c' := (12, [(0, .ref 48), (1, .int (nI p)), (2, .int (nI q))], [.int ((nI 8) * (nI p)), .ref 52], u)) rfl ?_
  refine x_top (v' := nI (8 * p)) (pk_mul _ _) ?_
  refine run_ok 2 (c' := (14, [(0, .ref 48), (1, .int (nI p)), (2, .int (nI q))], [.int ((nI (8 * p)) + (nI q)), .ref 52], u)) rfl ?_
  refine x_top (v' := nI ((8 * p) + q)) (nI_add _ _) ?_
  refine x_iaN (nI (th T ((8 * p) + q))) rfl rfl (by decide) (by omega) (r1 ((8 * p) + q) (by omega)) ?_
  exact x_ret (r := some (.int (nI (th T ((8 * p) + q))))) rfl rfl trivial ⟨rfl, hq⟩ rfl

set_option maxHeartbeats 2000000 in
theorem m_told_ok (S : ST) (T : TD) (n : Nat) (b : Nat → Nat) (n' : Nat) (b' : Nat → Nat) (hL : ML T n b n' b' S) (hto : tok T) (p q : Nat) (hp : p < 8) (hq8 : q < 8) (hpq : p ≠ q) : EX me_R_told 7 [.ref 48, .int (nI p), .int (nI q)] S (fun r u => r = some (.int (nI (th T (8 * p + q)))) ∧ QM S u) := by
  refine EX.of mok_R_told (Nat.le_of_ble_eq_true rfl) ?_
  refine run_ok 2 (c' := (2, [(0, .ref 48), (1, .int (nI p)), (2, .int (nI q))], [.int (nI q), .int (nI p)], S)) rfl ?_
  refine x_callS [.int (nI p), .int (nI q)] rfl cs_R_areTwo.1 lk_7_156 cs_R_areTwo.2.1 rfl rfl (Nat.le_of_ble_eq_true rfl) (by decide) cs_R_areTwo.2.2 (m_areTwo S (nI p) (nI q)) ?_
  rintro r u ⟨hr, hu⟩
  rw [hr, hu]
  clear hr hu r u
  refine x_ifB_eq 17 rfl rfl (fun hn => absurd hn (fun z => z (two_t hp hq8 hpq))) (fun h5 => ?_)
  refine run_ok 3 (c' := (11, [(0, .ref 48), (1, .int (nI p)), (2, .int (nI q))], [.int (nI q), .int (nI p), .ref 48], S)) rfl ?_
  refine x_callV [.int (nI p), .int (nI q)] rfl cv_R_toldOf.1 lk_7_160 cv_R_toldOf.2.1 cv_R_toldOf.2.2.1 rfl cv_R_toldOf.2.2.2.1 rfl rfl (Nat.le_of_ble_eq_true rfl) (by decide) cv_R_toldOf.2.2.2.2 (m_toldOf S T n b n' b' (hL.stay QM.rf) hto p q hp hq8) ?_
  rintro r u1 ⟨hr, hqu1⟩
  rw [hr]
  clear hr r
  have hQu1 : QM S u1 := QM.rf.tr hqu1
  refine run_ok 1 (c' := (19, [(0, .ref 48), (1, .int (nI p)), (2, .int (nI q))], [.int (nI (th T (8 * p + q)))], u1)) rfl ?_
  exact x_ret (r := some (.int (nI (th T (8 * p + q))))) rfl rfl trivial ⟨rfl, hQu1⟩ rfl

set_option maxHeartbeats 2000000 in
theorem m_told_bad (S : ST) (T : TD) (n : Nat) (b : Nat → Nat) (n' : Nat) (b' : Nat → Nat) (hL : ML T n b n' b' S) (hto : tok T) (x y : Int32) (hbad : ¬ ((0 ≤ x ∧ x < nI 8) ∧ (0 ≤ y ∧ y < nI 8) ∧ ¬ x = y)) : EX me_R_told 7 [.ref 48, .int x, .int y] S (fun r u => r = some (.int ((-2))) ∧ QM S u) := by
  refine EX.of mok_R_told (Nat.le_of_ble_eq_true rfl) ?_
  refine run_ok 2 (c' := (2, [(0, .ref 48), (1, .int x), (2, .int y)], [.int y, .int x], S)) rfl ?_
  refine x_callS [.int x, .int y] rfl cs_R_areTwo.1 lk_7_156 cs_R_areTwo.2.1 rfl rfl (Nat.le_of_ble_eq_true rfl) (by decide) cs_R_areTwo.2.2 (m_areTwo S (x) (y)) ?_
  rintro r u ⟨hr, hu⟩
  rw [hr, hu]
  clear hr hu r u
  refine x_ifB_eq 17 rfl rfl (fun h5 => ?_) (fun h5 => ?_)
  · refine run_ok 1 (c' := (19, [(0, .ref 48), (1, .int x), (2, .int y)], [.int (-2)], S)) rfl ?_
    exact x_ret (r := some (.int (-2))) rfl rfl trivial ⟨rfl, QM.rf⟩ rfl
  · exact absurd h5 hbad

theorem m_boatOf0 (S : ST) (T : TD) (n : Nat) (b : Nat → Nat) (hM : MR T n b S) (hto : tok T) (k : Nat) (hk : k < tnb T) : EX me_R_boatOf 0 [.ref 48, .int (nI k), .int (nI 0)] S (fun r u => r = some (.int (nI (tso T k))) ∧ u = S) := by
  refine EX.of mok_R_boatOf (Nat.le_of_ble_eq_true rfl) ?_
  have n8 := hto.1
  obtain ⟨r1, r2, r3, r4, r5, r6, r7⟩ := id hM
  refine run_ok 1 (c' := (1, [(0, .ref 48), (1, .int (nI k)), (2, .int (nI 0))], [.int (nI 0)], S)) rfl ?_
  refine x_ifN_ne 13 rfl rfl (by omega) (fun hn => absurd hn (by decide)) (fun _ => ?_)
  refine run_ok 3 (c' := (9, [(0, .ref 48), (1, .int (nI k)), (2, .int (nI 0))], [.int (nI k), .ref 53], S)) rfl ?_
  refine x_iaN (nI (tso T k)) rfl rfl (by decide) (by omega) (r2 k (by omega)) ?_
  refine run_ok 1 (c' := (47, [(0, .ref 48), (1, .int (nI k)), (2, .int (nI 0))], [.int (nI (tso T k))], S)) rfl ?_
  exact x_ret (r := some (.int (nI (tso T k)))) rfl rfl trivial ⟨rfl, rfl⟩ rfl

set_option maxHeartbeats 2000000 in
theorem m_boat_ok0 (S : ST) (T : TD) (n : Nat) (b : Nat → Nat) (n' : Nat) (b' : Nat → Nat) (hL : ML T n b n' b' S) (hto : tok T) (k : Nat) (hk : k < tnb T) : EX me_R_boat 7 [.ref 48, .int (nI k), .int (nI 0)] S (fun r u => r = some (.int (nI (tso T k))) ∧ QM S u) := by
  refine EX.of mok_R_boat (Nat.le_of_ble_eq_true rfl) ?_
  have n8 := hto.1
  refine run_ok 2 (c' := (2, [(0, .ref 48), (1, .int (nI k)), (2, .int (nI 0))], [.int (nI k), .ref 48], S)) rfl ?_
  refine x_callV [.int (nI k)] rfl cv_R_isBoat.1 lk_7_163 cv_R_isBoat.2.1 cv_R_isBoat.2.2.1 rfl cv_R_isBoat.2.2.2.1 rfl rfl (Nat.le_of_ble_eq_true rfl) (by decide) cv_R_isBoat.2.2.2.2 (m_isBoat S T n b n' b' (hL.stay QM.rf) hto (nI k)) ?_
  rintro r u1 ⟨hr, hRu1, hqu1⟩
  rw [hr]
  clear hr r
  have hQu1 : QM S u1 := QM.rf.tr hqu1
  refine x_ifB_eq 26 rfl rfl (fun hn => absurd hn (fun z => z (inr_t hk (by omega)))) (fun h5 => ?_)
  refine run_ok 3 (c' := (11, [(0, .ref 48), (1, .int (nI k)), (2, .int (nI 0))], [.int (nI 3), .int (nI 0), .int (nI 0)], u1)) rfl ?_
  refine x_callS [.int (nI 0), .int (nI 0), .int (nI 3)] rfl cs_R_in.1 lk_7_115 cs_R_in.2.1 rfl rfl (Nat.le_of_ble_eq_true rfl) (by decide) cs_R_in.2.2 (m_in u1 (nI 0) (nI 0) (nI 3)) ?_
  rintro r u ⟨hr, hu⟩
  rw [hr, hu]
  clear hr hu r u
  refine x_top (v' := b2 (0 ≤ nI 0 ∧ nI 0 < nI 4)) (b2_c (and_congr Iff.rfl (le_nI (n := 3) (by decide)))) ?_
  refine x_ifB_eq 26 rfl rfl (fun hn => absurd hn (fun z => z (inr_t (by decide) (by decide)))) (fun h14 => ?_)
  refine run_ok 3 (c' := (20, [(0, .ref 48), (1, .int (nI k)), (2, .int (nI 0))], [.int (nI 0), .int (nI k), .ref 48], u1)) rfl ?_
  refine x_callV [.int (nI k), .int (nI 0)] rfl cv_R_boatOf.1 lk_7_166 cv_R_boatOf.2.1 cv_R_boatOf.2.2.1 rfl cv_R_boatOf.2.2.2.1 rfl rfl (Nat.le_of_ble_eq_true rfl) (by decide) cv_R_boatOf.2.2.2.2 (m_boatOf0 u1 T n b hRu1 hto k hk) ?_
  rintro r z ⟨hr, hu⟩
  rw [hr, hu]
  clear hr hu r z
  refine run_ok 1 (c' := (28, [(0, .ref 48), (1, .int (nI k)), (2, .int (nI 0))], [.int (nI (tso T k))], u1)) rfl ?_
  exact x_ret (r := some (.int (nI (tso T k)))) rfl rfl trivial ⟨rfl, hQu1⟩ rfl

theorem m_boatOf1 (S : ST) (T : TD) (n : Nat) (b : Nat → Nat) (hM : MR T n b S) (hto : tok T) (k : Nat) (hk : k < tnb T) : EX me_R_boatOf 0 [.ref 48, .int (nI k), .int (nI 1)] S (fun r u => r = some (.int (nI (tbu T k))) ∧ u = S) := by
  refine EX.of mok_R_boatOf (Nat.le_of_ble_eq_true rfl) ?_
  have n8 := hto.1
  obtain ⟨r1, r2, r3, r4, r5, r6, r7⟩ := id hM
  refine run_ok 1 (c' := (1, [(0, .ref 48), (1, .int (nI k)), (2, .int (nI 1))], [.int (nI 1)], S)) rfl ?_
  refine x_ifN_ne 13 rfl rfl (by omega) (fun _ => ?_) (fun hn => absurd hn (by decide))
  refine run_ok 2 (c' := (15, [(0, .ref 48), (1, .int (nI k)), (2, .int (nI 1))], [.int (nI 1), .int (nI 1)], S)) rfl ?_
  refine x_icmpN_ne 27 rfl rfl (by omega) (by omega) (fun hn => absurd hn (by decide)) (fun _ => ?_)
  refine run_ok 3 (c' := (23, [(0, .ref 48), (1, .int (nI k)), (2, .int (nI 1))], [.int (nI k), .ref 54], S)) rfl ?_
  refine x_iaN (nI (tbu T k)) rfl rfl (by decide) (by omega) (r3 k (by omega)) ?_
  refine run_ok 1 (c' := (47, [(0, .ref 48), (1, .int (nI k)), (2, .int (nI 1))], [.int (nI (tbu T k))], S)) rfl ?_
  exact x_ret (r := some (.int (nI (tbu T k)))) rfl rfl trivial ⟨rfl, rfl⟩ rfl

set_option maxHeartbeats 2000000 in
theorem m_boat_ok1 (S : ST) (T : TD) (n : Nat) (b : Nat → Nat) (n' : Nat) (b' : Nat → Nat) (hL : ML T n b n' b' S) (hto : tok T) (k : Nat) (hk : k < tnb T) : EX me_R_boat 7 [.ref 48, .int (nI k), .int (nI 1)] S (fun r u => r = some (.int (nI (tbu T k))) ∧ QM S u) := by
  refine EX.of mok_R_boat (Nat.le_of_ble_eq_true rfl) ?_
  have n8 := hto.1
  refine run_ok 2 (c' := (2, [(0, .ref 48), (1, .int (nI k)), (2, .int (nI 1))], [.int (nI k), .ref 48], S)) rfl ?_
  refine x_callV [.int (nI k)] rfl cv_R_isBoat.1 lk_7_163 cv_R_isBoat.2.1 cv_R_isBoat.2.2.1 rfl cv_R_isBoat.2.2.2.1 rfl rfl (Nat.le_of_ble_eq_true rfl) (by decide) cv_R_isBoat.2.2.2.2 (m_isBoat S T n b n' b' (hL.stay QM.rf) hto (nI k)) ?_
  rintro r u1 ⟨hr, hRu1, hqu1⟩
  rw [hr]
  clear hr r
  have hQu1 : QM S u1 := QM.rf.tr hqu1
  refine x_ifB_eq 26 rfl rfl (fun hn => absurd hn (fun z => z (inr_t hk (by omega)))) (fun h5 => ?_)
  refine run_ok 3 (c' := (11, [(0, .ref 48), (1, .int (nI k)), (2, .int (nI 1))], [.int (nI 3), .int (nI 0), .int (nI 1)], u1)) rfl ?_
  refine x_callS [.int (nI 1), .int (nI 0), .int (nI 3)] rfl cs_R_in.1 lk_7_115 cs_R_in.2.1 rfl rfl (Nat.le_of_ble_eq_true rfl) (by decide) cs_R_in.2.2 (m_in u1 (nI 1) (nI 0) (nI 3)) ?_
  rintro r u ⟨hr, hu⟩
  rw [hr, hu]
  clear hr hu r u
  refine x_top (v' := b2 (0 ≤ nI 1 ∧ nI 1 < nI 4)) (b2_c (and_congr Iff.rfl (le_nI (n := 3) (by decide)))) ?_
  refine x_ifB_eq 26 rfl rfl (fun hn => absurd hn (fun z => z (inr_t (by decide) (by decide)))) (fun h14 => ?_)
  refine run_ok 3 (c' := (20, [(0, .ref 48), (1, .int (nI k)), (2, .int (nI 1))], [.int (nI 1), .int (nI k), .ref 48], u1)) rfl ?_
  refine x_callV [.int (nI k), .int (nI 1)] rfl cv_R_boatOf.1 lk_7_166 cv_R_boatOf.2.1 cv_R_boatOf.2.2.1 rfl cv_R_boatOf.2.2.2.1 rfl rfl (Nat.le_of_ble_eq_true rfl) (by decide) cv_R_boatOf.2.2.2.2 (m_boatOf1 u1 T n b hRu1 hto k hk) ?_
  rintro r z ⟨hr, hu⟩
  rw [hr, hu]
  clear hr hu r z
  refine run_ok 1 (c' := (28, [(0, .ref 48), (1, .int (nI k)), (2, .int (nI 1))], [.int (nI (tbu T k))], u1)) rfl ?_
  exact x_ret (r := some (.int (nI (tbu T k)))) rfl rfl trivial ⟨rfl, hQu1⟩ rfl

theorem m_boatOf2 (S : ST) (T : TD) (n : Nat) (b : Nat → Nat) (hM : MR T n b S) (hto : tok T) (k : Nat) (hk : k < tnb T) : EX me_R_boatOf 0 [.ref 48, .int (nI k), .int (nI 2)] S (fun r u => r = some (.int (nI (tla T k))) ∧ u = S) := by
  refine EX.of mok_R_boatOf (Nat.le_of_ble_eq_true rfl) ?_
  have n8 := hto.1
  obtain ⟨r1, r2, r3, r4, r5, r6, r7⟩ := id hM
  refine run_ok 1 (c' := (1, [(0, .ref 48), (1, .int (nI k)), (2, .int (nI 2))], [.int (nI 2)], S)) rfl ?_
  refine x_ifN_ne 13 rfl rfl (by omega) (fun _ => ?_) (fun hn => absurd hn (by decide))
  refine run_ok 2 (c' := (15, [(0, .ref 48), (1, .int (nI k)), (2, .int (nI 2))], [.int (nI 1), .int (nI 2)], S)) rfl ?_
  refine x_icmpN_ne 27 rfl rfl (by omega) (by omega) (fun _ => ?_) (fun hn => absurd hn (by decide))
  refine run_ok 2 (c' := (29, [(0, .ref 48), (1, .int (nI k)), (2, .int (nI 2))], [.int (nI 2), .int (nI 2)], S)) rfl ?_
  refine x_icmpN_ne 41 rfl rfl (by omega) (by omega) (fun hn => absurd hn (by decide)) (fun _ => ?_)
  refine run_ok 3 (c' := (37, [(0, .ref 48), (1, .int (nI k)), (2, .int (nI 2))], [.int (nI k), .ref 55], S)) rfl ?_
  refine x_iaN (nI (tla T k)) rfl rfl (by decide) (by omega) (r4 k (by omega)) ?_
  refine run_ok 1 (c' := (47, [(0, .ref 48), (1, .int (nI k)), (2, .int (nI 2))], [.int (nI (tla T k))], S)) rfl ?_
  exact x_ret (r := some (.int (nI (tla T k)))) rfl rfl trivial ⟨rfl, rfl⟩ rfl

set_option maxHeartbeats 2000000 in
theorem m_boat_ok2 (S : ST) (T : TD) (n : Nat) (b : Nat → Nat) (n' : Nat) (b' : Nat → Nat) (hL : ML T n b n' b' S) (hto : tok T) (k : Nat) (hk : k < tnb T) : EX me_R_boat 7 [.ref 48, .int (nI k), .int (nI 2)] S (fun r u => r = some (.int (nI (tla T k))) ∧ QM S u) := by
  refine EX.of mok_R_boat (Nat.le_of_ble_eq_true rfl) ?_
  have n8 := hto.1
  refine run_ok 2 (c' := (2, [(0, .ref 48), (1, .int (nI k)), (2, .int (nI 2))], [.int (nI k), .ref 48], S)) rfl ?_
  refine x_callV [.int (nI k)] rfl cv_R_isBoat.1 lk_7_163 cv_R_isBoat.2.1 cv_R_isBoat.2.2.1 rfl cv_R_isBoat.2.2.2.1 rfl rfl (Nat.le_of_ble_eq_true rfl) (by decide) cv_R_isBoat.2.2.2.2 (m_isBoat S T n b n' b' (hL.stay QM.rf) hto (nI k)) ?_
  rintro r u1 ⟨hr, hRu1, hqu1⟩
  rw [hr]
  clear hr r
  have hQu1 : QM S u1 := QM.rf.tr hqu1
  refine x_ifB_eq 26 rfl rfl (fun hn => absurd hn (fun z => z (inr_t hk (by omega)))) (fun h5 => ?_)
  refine run_ok 3 (c' := (11, [(0, .ref 48), (1, .int (nI k)), (2, .int (nI 2))], [.int (nI 3), .int (nI 0), .int (nI 2)], u1)) rfl ?_
  refine x_callS [.int (nI 2), .int (nI 0), .int (nI 3)] rfl cs_R_in.1 lk_7_115 cs_R_in.2.1 rfl rfl (Nat.le_of_ble_eq_true rfl) (by decide) cs_R_in.2.2 (m_in u1 (nI 2) (nI 0) (nI 3)) ?_
  rintro r u ⟨hr, hu⟩
  rw [hr, hu]
  clear hr hu r u
  refine x_top (v' := b2 (0 ≤ nI 2 ∧ nI 2 < nI 4)) (b2_c (and_congr Iff.rfl (le_nI (n := 3) (by decide)))) ?_
  refine x_ifB_eq 26 rfl rfl (fun hn => absurd hn (fun z => z (inr_t (by decide) (by decide)))) (fun h14 => ?_)
  refine run_ok 3 (c' := (20, [(0, .ref 48), (1, .int (nI k)), (2, .int (nI 2))], [.int (nI 2), .int (nI k), .ref 48], u1)) rfl ?_
  refine x_callV [.int (nI k), .int (nI 2)] rfl cv_R_boatOf.1 lk_7_166 cv_R_boatOf.2.1 cv_R_boatOf.2.2.1 rfl cv_R_boatOf.2.2.2.1 rfl rfl (Nat.le_of_ble_eq_true rfl) (by decide) cv_R_boatOf.2.2.2.2 (m_boatOf2 u1 T n b hRu1 hto k hk) ?_
  rintro r z ⟨hr, hu⟩
  rw [hr, hu]
  clear hr hu r z
  refine run_ok 1 (c' := (28, [(0, .ref 48), (1, .int (nI k)), (2, .int (nI 2))], [.int (nI (tla T k))], u1)) rfl ?_
  exact x_ret (r := some (.int (nI (tla T k)))) rfl rfl trivial ⟨rfl, hQu1⟩ rfl

theorem m_boatOf3 (S : ST) (T : TD) (n : Nat) (b : Nat → Nat) (hM : MR T n b S) (hto : tok T) (k : Nat) (hk : k < tnb T) : EX me_R_boatOf 0 [.ref 48, .int (nI k), .int (nI 3)] S (fun r u => r = some (.int (nI (tst T k))) ∧ u = S) := by
  refine EX.of mok_R_boatOf (Nat.le_of_ble_eq_true rfl) ?_
  have n8 := hto.1
  obtain ⟨r1, r2, r3, r4, r5, r6, r7⟩ := id hM
  refine run_ok 1 (c' := (1, [(0, .ref 48), (1, .int (nI k)), (2, .int (nI 3))], [.int (nI 3)], S)) rfl ?_
  refine x_ifN_ne 13 rfl rfl (by omega) (fun _ => ?_) (fun hn => absurd hn (by decide))
  refine run_ok 2 (c' := (15, [(0, .ref 48), (1, .int (nI k)), (2, .int (nI 3))], [.int (nI 1), .int (nI 3)], S)) rfl ?_
  refine x_icmpN_ne 27 rfl rfl (by omega) (by omega) (fun _ => ?_) (fun hn => absurd hn (by decide))
  refine run_ok 2 (c' := (29, [(0, .ref 48), (1, .int (nI k)), (2, .int (nI 3))], [.int (nI 2), .int (nI 3)], S)) rfl ?_
  refine x_icmpN_ne 41 rfl rfl (by omega) (by omega) (fun _ => ?_) (fun hn => absurd hn (by decide))
  refine run_ok 3 (c' := (46, [(0, .ref 48), (1, .int (nI k)), (2, .int (nI 3))], [.int (nI k), .ref 56], S)) rfl ?_
  refine x_iaN (nI (tst T k)) rfl rfl (by decide) (by omega) (r5 k (by omega)) ?_
  exact x_ret (r := some (.int (nI (tst T k)))) rfl rfl trivial ⟨rfl, rfl⟩ rfl

set_option maxHeartbeats 2000000 in
theorem m_boat_ok3 (S : ST) (T : TD) (n : Nat) (b : Nat → Nat) (n' : Nat) (b' : Nat → Nat) (hL : ML T n b n' b' S) (hto : tok T) (k : Nat) (hk : k < tnb T) : EX me_R_boat 7 [.ref 48, .int (nI k), .int (nI 3)] S (fun r u => r = some (.int (nI (tst T k))) ∧ QM S u) := by
  refine EX.of mok_R_boat (Nat.le_of_ble_eq_true rfl) ?_
  have n8 := hto.1
  refine run_ok 2 (c' := (2, [(0, .ref 48), (1, .int (nI k)), (2, .int (nI 3))], [.int (nI k), .ref 48], S)) rfl ?_
  refine x_callV [.int (nI k)] rfl cv_R_isBoat.1 lk_7_163 cv_R_isBoat.2.1 cv_R_isBoat.2.2.1 rfl cv_R_isBoat.2.2.2.1 rfl rfl (Nat.le_of_ble_eq_true rfl) (by decide) cv_R_isBoat.2.2.2.2 (m_isBoat S T n b n' b' (hL.stay QM.rf) hto (nI k)) ?_
  rintro r u1 ⟨hr, hRu1, hqu1⟩
  rw [hr]
  clear hr r
  have hQu1 : QM S u1 := QM.rf.tr hqu1
  refine x_ifB_eq 26 rfl rfl (fun hn => absurd hn (fun z => z (inr_t hk (by omega)))) (fun h5 => ?_)
  refine run_ok 3 (c' := (11, [(0, .ref 48), (1, .int (nI k)), (2, .int (nI 3))], [.int (nI 3), .int (nI 0), .int (nI 3)], u1)) rfl ?_
  refine x_callS [.int (nI 3), .int (nI 0), .int (nI 3)] rfl cs_R_in.1 lk_7_115 cs_R_in.2.1 rfl rfl (Nat.le_of_ble_eq_true rfl) (by decide) cs_R_in.2.2 (m_in u1 (nI 3) (nI 0) (nI 3)) ?_
  rintro r u ⟨hr, hu⟩
  rw [hr, hu]
  clear hr hu r u
  refine x_top (v' := b2 (0 ≤ nI 3 ∧ nI 3 < nI 4)) (b2_c (and_congr Iff.rfl (le_nI (n := 3) (by decide)))) ?_
  refine x_ifB_eq 26 rfl rfl (fun hn => absurd hn (fun z => z (inr_t (by decide) (by decide)))) (fun h14 => ?_)
  refine run_ok 3 (c' := (20, [(0, .ref 48), (1, .int (nI k)), (2, .int (nI 3))], [.int (nI 3), .int (nI k), .ref 48], u1)) rfl ?_
  refine x_callV [.int (nI k), .int (nI 3)] rfl cv_R_boatOf.1 lk_7_166 cv_R_boatOf.2.1 cv_R_boatOf.2.2.1 rfl cv_R_boatOf.2.2.2.1 rfl rfl (Nat.le_of_ble_eq_true rfl) (by decide) cv_R_boatOf.2.2.2.2 (m_boatOf3 u1 T n b hRu1 hto k hk) ?_
  rintro r z ⟨hr, hu⟩
  rw [hr, hu]
  clear hr hu r z
  refine run_ok 1 (c' := (28, [(0, .ref 48), (1, .int (nI k)), (2, .int (nI 3))], [.int (nI (tst T k))], u1)) rfl ?_
  exact x_ret (r := some (.int (nI (tst T k)))) rfl rfl trivial ⟨rfl, hQu1⟩ rfl

set_option maxHeartbeats 2000000 in
theorem m_boat_bad (S : ST) (T : TD) (n : Nat) (b : Nat → Nat) (n' : Nat) (b' : Nat → Nat) (hL : ML T n b n' b' S) (hto : tok T) (x y : Int32) (hbad : ¬ ((0 ≤ x ∧ x < nI (tnb T)) ∧ (0 ≤ y ∧ y < nI 4))) : EX me_R_boat 7 [.ref 48, .int x, .int y] S (fun r u => r = some (.int ((-2))) ∧ QM S u) := by
  refine EX.of mok_R_boat (Nat.le_of_ble_eq_true rfl) ?_
  refine run_ok 2 (c' := (2, [(0, .ref 48), (1, .int x), (2, .int y)], [.int x, .ref 48], S)) rfl ?_
  refine x_callV [.int x] rfl cv_R_isBoat.1 lk_7_163 cv_R_isBoat.2.1 cv_R_isBoat.2.2.1 rfl cv_R_isBoat.2.2.2.1 rfl rfl (Nat.le_of_ble_eq_true rfl) (by decide) cv_R_isBoat.2.2.2.2 (m_isBoat S T n b n' b' (hL.stay QM.rf) hto (x)) ?_
  rintro r u1 ⟨hr, hRu1, hqu1⟩
  rw [hr]
  clear hr r
  have hQu1 : QM S u1 := QM.rf.tr hqu1
  refine x_ifB_eq 26 rfl rfl (fun h5 => ?_) (fun h5 => ?_)
  · refine run_ok 1 (c' := (28, [(0, .ref 48), (1, .int x), (2, .int y)], [.int (-2)], u1)) rfl ?_
    exact x_ret (r := some (.int (-2))) rfl rfl trivial ⟨rfl, hQu1⟩ rfl
  · refine run_ok 3 (c' := (11, [(0, .ref 48), (1, .int x), (2, .int y)], [.int (nI 3), .int (nI 0), .int y], u1)) rfl ?_
    refine x_callS [.int y, .int (nI 0), .int (nI 3)] rfl cs_R_in.1 lk_7_115 cs_R_in.2.1 rfl rfl (Nat.le_of_ble_eq_true rfl) (by decide) cs_R_in.2.2 (m_in u1 (y) (nI 0) (nI 3)) ?_
    rintro r u ⟨hr, hu⟩
    rw [hr, hu]
    clear hr hu r u
    refine x_top (v' := b2 (0 ≤ y ∧ y < nI 4)) (b2_c (and_congr Iff.rfl (le_nI (n := 3) (by decide)))) ?_
    refine x_ifB_eq 26 rfl rfl (fun h14 => ?_) (fun h14 => ?_)
    · refine run_ok 1 (c' := (28, [(0, .ref 48), (1, .int x), (2, .int y)], [.int (-2)], u1)) rfl ?_
      exact x_ret (r := some (.int (-2))) rfl rfl trivial ⟨rfl, hQu1⟩ rfl
    · exact absurd ⟨h5, h14⟩ hbad

set_option maxHeartbeats 2000000 in
theorem m_hatesOf (S : ST) (T : TD) (n : Nat) (b : Nat → Nat) (n' : Nat) (b' : Nat → Nat) (hL : ML T n b n' b' S) (hto : tok T) (w p q : Nat) (hw : w < 24) (hp : p < 8) (hq8 : q < 8) : EX me_R_hatesOf 8 [.ref 48, .int (nI w), .int (nI p), .int (nI q)] S (fun r u => r = some (.int (nI (vh (vo T (w + 1)) (8 * p + q)))) ∧ QM S u) := by
  refine EX.of mok_R_hatesOf (Nat.le_of_ble_eq_true rfl) ?_
  refine run_ok 1 (c' := (1, [(0, .ref 48), (1, .int (nI w)), (2, .int (nI p)), (3, .int (nI q))], [.ref 48], S)) rfl ?_
  refine x_callV [] rfl cv_R_runsTold.1 lk_7_226 cv_R_runsTold.2.1 cv_R_runsTold.2.2.1 rfl cv_R_runsTold.2.2.2.1 rfl rfl (Nat.le_of_ble_eq_true rfl) (by decide) cv_R_runsTold.2.2.2.2 (m_runsTold S T n b n' b' (hL.stay QM.rf) hto) ?_
  rintro r u1 ⟨hr, hTu1, hMu1, hCu1, hhu1, hqu1⟩
  rw [hr]
  clear hr r
  have hQu1 : QM S u1 := QM.rf.tr hqu1
  obtain ⟨t1, t2, t3, t4, t5, t6, t7, t8, t9, t10, t11⟩ := id hTu1
  obtain ⟨m1, m2, m3, m4, m5, m6, m7⟩ := id hMu1
  refine run_ok 5 (c' := (12, [(0, .ref 48), (1, .int (nI w)), (2, .int (nI p)), (3, .int (nI q))], [.int ((nI 64) * (nI w)), .ref 72], u1)) rfl ?_
  refine x_top (v' := nI (64 * w)) (pk_mul _ _) ?_
  refine run_ok 3 (c' := (16, [(0, .ref 48), (1, .int (nI w)), (2, .int (nI p)), (3, .int (nI q))], [.int ((nI 8) * (nI p)), .int (nI (64 * w)), .ref 72], u1)) rfl ?_
  refine x_top (v' := nI (8 * p)) (pk_mul _ _) ?_
  refine run_ok 1 (c' := (17, [(0, .ref 48), (1, .int (nI w)), (2, .int (nI p)), (3, .int (nI q))], [.int ((nI (64 * w)) + (nI (8 * p))), .ref 72], u1)) rfl ?_
  refine x_top (v' := nI ((64 * w) + (8 * p))) (nI_add _ _) ?_
  refine run_ok 2 (c' := (19, [(0, .ref 48), (1, .int (nI w)), (2, .int (nI p)), (3, .int (nI q))], [.int ((nI ((64 * w) + (8 * p))) + (nI q)), .ref 72], u1)) rfl ?_
  refine x_top (v' := nI (((64 * w) + (8 * p)) + q)) (nI_add _ _) ?_
  refine x_iaN (nI (vh (vo T (w + 1)) (8 * p + q))) rfl rfl (by decide) (by omega) (by rw [show ((64 * w) + (8 * p)) + q = 64 * w + (8 * p + q) by omega]; exact hCu1.2 w hw _ (by omega)) ?_
  exact x_ret (r := some (.int (nI (vh (vo T (w + 1)) (8 * p + q))))) rfl rfl trivial ⟨rfl, hQu1⟩ rfl

set_option maxHeartbeats 2000000 in
theorem m_hates_ok (S : ST) (T : TD) (n : Nat) (b : Nat → Nat) (n' : Nat) (b' : Nat → Nat) (hL : ML T n b n' b' S) (hto : tok T) (w p q : Nat) (hw : w < 24) (hp : p < 8) (hq8 : q < 8) (hpq : p ≠ q) : EX me_R_hates 9 [.ref 48, .int (nI w), .int (nI p), .int (nI q)] S (fun r u => r = some (.int (nI (vh (vo T (w + 1)) (8 * p + q)))) ∧ QM S u) := by
  refine EX.of mok_R_hates (Nat.le_of_ble_eq_true rfl) ?_
  refine run_ok 1 (c' := (1, [(0, .ref 48), (1, .int (nI w)), (2, .int (nI p)), (3, .int (nI q))], [.int (nI w)], S)) rfl ?_
  refine x_callS [.int (nI w)] rfl cs_R_isWeek.1 lk_7_130 cs_R_isWeek.2.1 rfl rfl (Nat.le_of_ble_eq_true rfl) (by decide) cs_R_isWeek.2.2 (m_isWeek S (nI w)) ?_
  rintro r u ⟨hr, hu⟩
  rw [hr, hu]
  clear hr hu r u
  refine x_ifB_eq 25 rfl rfl (fun hn => absurd hn (fun z => z (inr_t hw (by decide)))) (fun h4 => ?_)
  refine run_ok 2 (c' := (9, [(0, .ref 48), (1, .int (nI w)), (2, .int (nI p)), (3, .int (nI q))], [.int (nI q), .int (nI p)], S)) rfl ?_
  refine x_callS [.int (nI p), .int (nI q)] rfl cs_R_areTwo.1 lk_7_156 cs_R_areTwo.2.1 rfl rfl (Nat.le_of_ble_eq_true rfl) (by decide) cs_R_areTwo.2.2 (m_areTwo S (nI p) (nI q)) ?_
  rintro r u ⟨hr, hu⟩
  rw [hr, hu]
  clear hr hu r u
  refine x_ifB_eq 25 rfl rfl (fun hn => absurd hn (fun z => z (two_t hp hq8 hpq))) (fun h12 => ?_)
  refine run_ok 4 (c' := (19, [(0, .ref 48), (1, .int (nI w)), (2, .int (nI p)), (3, .int (nI q))], [.int (nI q), .int (nI p), .int (nI w), .ref 48], S)) rfl ?_
  refine x_callV [.int (nI w), .int (nI p), .int (nI q)] rfl cv_R_hatesOf.1 lk_7_229 cv_R_hatesOf.2.1 cv_R_hatesOf.2.2.1 rfl cv_R_hatesOf.2.2.2.1 rfl rfl (Nat.le_of_ble_eq_true rfl) (by decide) cv_R_hatesOf.2.2.2.2 (m_hatesOf S T n b n' b' (hL.stay QM.rf) hto w p q hw hp hq8) ?_
  rintro r u1 ⟨hr, hqu1⟩
  rw [hr]
  clear hr r
  have hQu1 : QM S u1 := QM.rf.tr hqu1
  refine run_ok 1 (c' := (27, [(0, .ref 48), (1, .int (nI w)), (2, .int (nI p)), (3, .int (nI q))], [.int (nI (vh (vo T (w + 1)) (8 * p + q)))], u1)) rfl ?_
  exact x_ret (r := some (.int (nI (vh (vo T (w + 1)) (8 * p + q))))) rfl rfl trivial ⟨rfl, hQu1⟩ rfl

set_option maxHeartbeats 2000000 in
theorem m_hates_bad (S : ST) (T : TD) (n : Nat) (b : Nat → Nat) (n' : Nat) (b' : Nat → Nat) (hL : ML T n b n' b' S) (hto : tok T) (x y z : Int32) (hbad : ¬ ((0 ≤ x ∧ x < nI 24) ∧ (0 ≤ y ∧ y < nI 8) ∧ (0 ≤ z ∧ z < nI 8) ∧ ¬ y = z)) : EX me_R_hates 9 [.ref 48, .int x, .int y, .int z] S (fun r u => r = some (.int ((-2))) ∧ QM S u) := by
  refine EX.of mok_R_hates (Nat.le_of_ble_eq_true rfl) ?_
  refine run_ok 1 (c' := (1, [(0, .ref 48), (1, .int x), (2, .int y), (3, .int z)], [.int x], S)) rfl ?_
  refine x_callS [.int x] rfl cs_R_isWeek.1 lk_7_130 cs_R_isWeek.2.1 rfl rfl (Nat.le_of_ble_eq_true rfl) (by decide) cs_R_isWeek.2.2 (m_isWeek S (x)) ?_
  rintro r u ⟨hr, hu⟩
  rw [hr, hu]
  clear hr hu r u
  refine x_ifB_eq 25 rfl rfl (fun h4 => ?_) (fun h4 => ?_)
  · refine run_ok 1 (c' := (27, [(0, .ref 48), (1, .int x), (2, .int y), (3, .int z)], [.int (-2)], S)) rfl ?_
    exact x_ret (r := some (.int (-2))) rfl rfl trivial ⟨rfl, QM.rf⟩ rfl
  · refine run_ok 2 (c' := (9, [(0, .ref 48), (1, .int x), (2, .int y), (3, .int z)], [.int z, .int y], S)) rfl ?_
    refine x_callS [.int y, .int z] rfl cs_R_areTwo.1 lk_7_156 cs_R_areTwo.2.1 rfl rfl (Nat.le_of_ble_eq_true rfl) (by decide) cs_R_areTwo.2.2 (m_areTwo S (y) (z)) ?_
    rintro r u ⟨hr, hu⟩
    rw [hr, hu]
    clear hr hu r u
    refine x_ifB_eq 25 rfl rfl (fun h12 => ?_) (fun h12 => ?_)
    · refine run_ok 1 (c' := (27, [(0, .ref 48), (1, .int x), (2, .int y), (3, .int z)], [.int (-2)], S)) rfl ?_
      exact x_ret (r := some (.int (-2))) rfl rfl trivial ⟨rfl, QM.rf⟩ rfl
    · exact absurd ⟨h4, h12⟩ hbad

set_option maxHeartbeats 2000000 in
theorem m_atOf0 (S : ST) (T : TD) (n : Nat) (b : Nat → Nat) (n' : Nat) (b' : Nat → Nat) (hL : ML T n b n' b' S) (hto : tok T) (w k : Nat) (hw : w < 24) (hk : k < tnb T) : EX me_R_atOf 8 [.ref 48, .int (nI w), .int (nI k), .int (nI 0)] S (fun r u => r = some (.int (nI (vis (vo T (w + 1)) k))) ∧ QM S u) := by
  refine EX.of mok_R_atOf (Nat.le_of_ble_eq_true rfl) ?_
  have n8 := hto.1
  refine run_ok 1 (c' := (1, [(0, .ref 48), (1, .int (nI w)), (2, .int (nI k)), (3, .int (nI 0))], [.ref 48], S)) rfl ?_
  refine x_callV [] rfl cv_R_runsTold.1 lk_7_226 cv_R_runsTold.2.1 cv_R_runsTold.2.2.1 rfl cv_R_runsTold.2.2.2.1 rfl rfl (Nat.le_of_ble_eq_true rfl) (by decide) cv_R_runsTold.2.2.2.2 (m_runsTold S T n b n' b' (hL.stay QM.rf) hto) ?_
  rintro r u1 ⟨hr, hTu1, hMu1, hCu1, hhu1, hqu1⟩
  rw [hr]
  clear hr r
  have hQu1 : QM S u1 := QM.rf.tr hqu1
  obtain ⟨t1, t2, t3, t4, t5, t6, t7, t8, t9, t10, t11⟩ := id hTu1
  obtain ⟨m1, m2, m3, m4, m5, m6, m7⟩ := id hMu1
  refine run_ok 3 (c' := (8, [(0, .ref 48), (1, .int (nI w)), (2, .int (nI k)), (3, .int (nI 0))], [.int ((nI 8) * (nI w))], u1)) rfl ?_
  refine x_top (v' := nI (8 * w)) (pk_mul _ _) ?_
  refine run_ok 2 (c' := (10, [(0, .ref 48), (1, .int (nI w)), (2, .int (nI k)), (3, .int (nI 0))], [.int ((nI (8 * w)) + (nI k))], u1)) rfl ?_
  refine x_top (v' := nI ((8 * w) + k)) (nI_add _ _) ?_
  refine run_ok 2 (c' := (13, [(0, .ref 48), (1, .int (nI w)), (2, .int (nI k)), (3, .int (nI 0)), (4, .int (nI ((8 * w) + k)))], [.int (nI 0)], u1)) rfl ?_
  refine x_ifN_ne 26 rfl rfl (by omega) (fun hn => absurd hn (by decide)) (fun _ => ?_)
  refine run_ok 3 (c' := (22, [(0, .ref 48), (1, .int (nI w)), (2, .int (nI k)), (3, .int (nI 0)), (4, .int (nI ((8 * w) + k)))], [.int (nI ((8 * w) + k)), .ref 68], u1)) rfl ?_
  refine x_iaN (nI (vis (vo T (w + 1)) k)) rfl rfl (by decide) (by omega) (hCu1.1 w hw k hk).1 ?_
  refine run_ok 1 (c' := (63, [(0, .ref 48), (1, .int (nI w)), (2, .int (nI k)), (3, .int (nI 0)), (4, .int (nI ((8 * w) + k)))], [.int (nI (vis (vo T (w + 1)) k))], u1)) rfl ?_
  exact x_ret (r := some (.int (nI (vis (vo T (w + 1)) k)))) rfl rfl trivial ⟨rfl, hQu1⟩ rfl

set_option maxHeartbeats 2000000 in
theorem m_at_ok0 (S : ST) (T : TD) (n : Nat) (b : Nat → Nat) (n' : Nat) (b' : Nat → Nat) (hL : ML T n b n' b' S) (hto : tok T) (w k : Nat) (hw : w < 24) (hk : k < tnb T) : EX me_R_at 9 [.ref 48, .int (nI w), .int (nI k), .int (nI 0)] S (fun r u => r = some (.int (nI (vis (vo T (w + 1)) k))) ∧ QM S u) := by
  refine EX.of mok_R_at (Nat.le_of_ble_eq_true rfl) ?_
  have n8 := hto.1
  refine run_ok 1 (c' := (1, [(0, .ref 48), (1, .int (nI w)), (2, .int (nI k)), (3, .int (nI 0))], [.int (nI w)], S)) rfl ?_
  refine x_callS [.int (nI w)] rfl cs_R_isWeek.1 lk_7_130 cs_R_isWeek.2.1 rfl rfl (Nat.le_of_ble_eq_true rfl) (by decide) cs_R_isWeek.2.2 (m_isWeek S (nI w)) ?_
  rintro r u ⟨hr, hu⟩
  rw [hr, hu]
  clear hr hu r u
  refine x_ifB_eq 34 rfl rfl (fun hn => absurd hn (fun z => z (inr_t hw (by decide)))) (fun h4 => ?_)
  refine run_ok 2 (c' := (9, [(0, .ref 48), (1, .int (nI w)), (2, .int (nI k)), (3, .int (nI 0))], [.int (nI k), .ref 48], S)) rfl ?_
  refine x_callV [.int (nI k)] rfl cv_R_isBoat.1 lk_7_163 cv_R_isBoat.2.1 cv_R_isBoat.2.2.1 rfl cv_R_isBoat.2.2.2.1 rfl rfl (Nat.le_of_ble_eq_true rfl) (by decide) cv_R_isBoat.2.2.2.2 (m_isBoat S T n b n' b' (hL.stay QM.rf) hto (nI k)) ?_
  rintro r u1 ⟨hr, hRu1, hqu1⟩
  rw [hr]
  clear hr r
  have hQu1 : QM S u1 := QM.rf.tr hqu1
  refine x_ifB_eq 34 rfl rfl (fun hn => absurd hn (fun z => z (inr_t hk (by omega)))) (fun h12 => ?_)
  refine run_ok 3 (c' := (18, [(0, .ref 48), (1, .int (nI w)), (2, .int (nI k)), (3, .int (nI 0))], [.int (nI 3), .int (nI 0), .int (nI 0)], u1)) rfl ?_
  refine x_callS [.int (nI 0), .int (nI 0), .int (nI 3)] rfl cs_R_in.1 lk_7_115 cs_R_in.2.1 rfl rfl (Nat.le_of_ble_eq_true rfl) (by decide) cs_R_in.2.2 (m_in u1 (nI 0) (nI 0) (nI 3)) ?_
  rintro r u ⟨hr, hu⟩
  rw [hr, hu]
  clear hr hu r u
  refine x_top (v' := b2 (0 ≤ nI 0 ∧ nI 0 < nI 4)) (b2_c (and_congr Iff.rfl (le_nI (n := 3) (by decide)))) ?_
  refine x_ifB_eq 34 rfl rfl (fun hn => absurd hn (fun z => z (inr_t (by decide) (by decide)))) (fun h21 => ?_)
  refine run_ok 4 (c' := (28, [(0, .ref 48), (1, .int (nI w)), (2, .int (nI k)), (3, .int (nI 0))], [.int (nI 0), .int (nI k), .int (nI w), .ref 48], u1)) rfl ?_
  refine x_callV [.int (nI w), .int (nI k), .int (nI 0)] rfl cv_R_atOf.1 lk_7_232 cv_R_atOf.2.1 cv_R_atOf.2.2.1 rfl cv_R_atOf.2.2.2.1 rfl rfl (Nat.le_of_ble_eq_true rfl) (by decide) cv_R_atOf.2.2.2.2 (m_atOf0 u1 T n b n' b' (hL.stay hQu1) hto w k hw hk) ?_
  rintro r u2 ⟨hr, hqu2⟩
  rw [hr]
  clear hr r
  have hQu2 : QM S u2 := hQu1.tr hqu2
  refine run_ok 1 (c' := (36, [(0, .ref 48), (1, .int (nI w)), (2, .int (nI k)), (3, .int (nI 0))], [.int (nI (vis (vo T (w + 1)) k))], u2)) rfl ?_
  exact x_ret (r := some (.int (nI (vis (vo T (w + 1)) k)))) rfl rfl trivial ⟨rfl, hQu2⟩ rfl

set_option maxHeartbeats 2000000 in
theorem m_atOf1 (S : ST) (T : TD) (n : Nat) (b : Nat → Nat) (n' : Nat) (b' : Nat → Nat) (hL : ML T n b n' b' S) (hto : tok T) (w k : Nat) (hw : w < 24) (hk : k < tnb T) : EX me_R_atOf 8 [.ref 48, .int (nI w), .int (nI k), .int (nI 1)] S (fun r u => r = some (.int (nmv (vnm (vo T (w + 1)) k))) ∧ QM S u) := by
  refine EX.of mok_R_atOf (Nat.le_of_ble_eq_true rfl) ?_
  have n8 := hto.1
  refine run_ok 1 (c' := (1, [(0, .ref 48), (1, .int (nI w)), (2, .int (nI k)), (3, .int (nI 1))], [.ref 48], S)) rfl ?_
  refine x_callV [] rfl cv_R_runsTold.1 lk_7_226 cv_R_runsTold.2.1 cv_R_runsTold.2.2.1 rfl cv_R_runsTold.2.2.2.1 rfl rfl (Nat.le_of_ble_eq_true rfl) (by decide) cv_R_runsTold.2.2.2.2 (m_runsTold S T n b n' b' (hL.stay QM.rf) hto) ?_
  rintro r u1 ⟨hr, hTu1, hMu1, hCu1, hhu1, hqu1⟩
  rw [hr]
  clear hr r
  have hQu1 : QM S u1 := QM.rf.tr hqu1
  obtain ⟨t1, t2, t3, t4, t5, t6, t7, t8, t9, t10, t11⟩ := id hTu1
  obtain ⟨m1, m2, m3, m4, m5, m6, m7⟩ := id hMu1
  refine run_ok 3 (c' := (8, [(0, .ref 48), (1, .int (nI w)), (2, .int (nI k)), (3, .int (nI 1))], [.int ((nI 8) * (nI w))], u1)) rfl ?_
  refine x_top (v' := nI (8 * w)) (pk_mul _ _) ?_
  refine run_ok 2 (c' := (10, [(0, .ref 48), (1, .int (nI w)), (2, .int (nI k)), (3, .int (nI 1))], [.int ((nI (8 * w)) + (nI k))], u1)) rfl ?_
  refine x_top (v' := nI ((8 * w) + k)) (nI_add _ _) ?_
  refine run_ok 2 (c' := (13, [(0, .ref 48), (1, .int (nI w)), (2, .int (nI k)), (3, .int (nI 1)), (4, .int (nI ((8 * w) + k)))], [.int (nI 1)], u1)) rfl ?_
  refine x_ifN_ne 26 rfl rfl (by omega) (fun _ => ?_) (fun hn => absurd hn (by decide))
  refine run_ok 2 (c' := (28, [(0, .ref 48), (1, .int (nI w)), (2, .int (nI k)), (3, .int (nI 1)), (4, .int (nI ((8 * w) + k)))], [.int (nI 1), .int (nI 1)], u1)) rfl ?_
  refine x_icmpN_ne 41 rfl rfl (by omega) (by omega) (fun hn => absurd hn (by decide)) (fun _ => ?_)
  refine run_ok 3 (c' := (37, [(0, .ref 48), (1, .int (nI w)), (2, .int (nI k)), (3, .int (nI 1)), (4, .int (nI ((8 * w) + k)))], [.int (nI ((8 * w) + k)), .ref 69], u1)) rfl ?_
  refine x_iaN (nmv (vnm (vo T (w + 1)) k)) rfl rfl (by decide) (by omega) (hCu1.1 w hw k hk).2.1 ?_
  refine run_ok 1 (c' := (63, [(0, .ref 48), (1, .int (nI w)), (2, .int (nI k)), (3, .int (nI 1)), (4, .int (nI ((8 * w) + k)))], [.int (nmv (vnm (vo T (w + 1)) k))], u1)) rfl ?_
  exact x_ret (r := some (.int (nmv (vnm (vo T (w + 1)) k)))) rfl rfl trivial ⟨rfl, hQu1⟩ rfl

set_option maxHeartbeats 2000000 in
theorem m_at_ok1 (S : ST) (T : TD) (n : Nat) (b : Nat → Nat) (n' : Nat) (b' : Nat → Nat) (hL : ML T n b n' b' S) (hto : tok T) (w k : Nat) (hw : w < 24) (hk : k < tnb T) : EX me_R_at 9 [.ref 48, .int (nI w), .int (nI k), .int (nI 1)] S (fun r u => r = some (.int (nmv (vnm (vo T (w + 1)) k))) ∧ QM S u) := by
  refine EX.of mok_R_at (Nat.le_of_ble_eq_true rfl) ?_
  have n8 := hto.1
  refine run_ok 1 (c' := (1, [(0, .ref 48), (1, .int (nI w)), (2, .int (nI k)), (3, .int (nI 1))], [.int (nI w)], S)) rfl ?_
  refine x_callS [.int (nI w)] rfl cs_R_isWeek.1 lk_7_130 cs_R_isWeek.2.1 rfl rfl (Nat.le_of_ble_eq_true rfl) (by decide) cs_R_isWeek.2.2 (m_isWeek S (nI w)) ?_
  rintro r u ⟨hr, hu⟩
  rw [hr, hu]
  clear hr hu r u
  refine x_ifB_eq 34 rfl rfl (fun hn => absurd hn (fun z => z (inr_t hw (by decide)))) (fun h4 => ?_)
  refine run_ok 2 (c' := (9, [(0, .ref 48), (1, .int (nI w)), (2, .int (nI k)), (3, .int (nI 1))], [.int (nI k), .ref 48], S)) rfl ?_
  refine x_callV [.int (nI k)] rfl cv_R_isBoat.1 lk_7_163 cv_R_isBoat.2.1 cv_R_isBoat.2.2.1 rfl cv_R_isBoat.2.2.2.1 rfl rfl (Nat.le_of_ble_eq_true rfl) (by decide) cv_R_isBoat.2.2.2.2 (m_isBoat S T n b n' b' (hL.stay QM.rf) hto (nI k)) ?_
  rintro r u1 ⟨hr, hRu1, hqu1⟩
  rw [hr]
  clear hr r
  have hQu1 : QM S u1 := QM.rf.tr hqu1
  refine x_ifB_eq 34 rfl rfl (fun hn => absurd hn (fun z => z (inr_t hk (by omega)))) (fun h12 => ?_)
  refine run_ok 3 (c' := (18, [(0, .ref 48), (1, .int (nI w)), (2, .int (nI k)), (3, .int (nI 1))], [.int (nI 3), .int (nI 0), .int (nI 1)], u1)) rfl ?_
  refine x_callS [.int (nI 1), .int (nI 0), .int (nI 3)] rfl cs_R_in.1 lk_7_115 cs_R_in.2.1 rfl rfl (Nat.le_of_ble_eq_true rfl) (by decide) cs_R_in.2.2 (m_in u1 (nI 1) (nI 0) (nI 3)) ?_
  rintro r u ⟨hr, hu⟩
  rw [hr, hu]
  clear hr hu r u
  refine x_top (v' := b2 (0 ≤ nI 1 ∧ nI 1 < nI 4)) (b2_c (and_congr Iff.rfl (le_nI (n := 3) (by decide)))) ?_
  refine x_ifB_eq 34 rfl rfl (fun hn => absurd hn (fun z => z (inr_t (by decide) (by decide)))) (fun h21 => ?_)
  refine run_ok 4 (c' := (28, [(0, .ref 48), (1, .int (nI w)), (2, .int (nI k)), (3, .int (nI 1))], [.int (nI 1), .int (nI k), .int (nI w), .ref 48], u1)) rfl ?_
  refine x_callV [.int (nI w), .int (nI k), .int (nI 1)] rfl cv_R_atOf.1 lk_7_232 cv_R_atOf.2.1 cv_R_atOf.2.2.1 rfl cv_R_atOf.2.2.2.1 rfl rfl (Nat.le_of_ble_eq_true rfl) (by decide) cv_R_atOf.2.2.2.2 (m_atOf1 u1 T n b n' b' (hL.stay hQu1) hto w k hw hk) ?_
  rintro r u2 ⟨hr, hqu2⟩
  rw [hr]
  clear hr r
  have hQu2 : QM S u2 := hQu1.tr hqu2
  refine run_ok 1 (c' := (36, [(0, .ref 48), (1, .int (nI w)), (2, .int (nI k)), (3, .int (nI 1))], [.int (nmv (vnm (vo T (w + 1)) k))], u2)) rfl ?_
  exact x_ret (r := some (.int (nmv (vnm (vo T (w + 1)) k)))) rfl rfl trivial ⟨rfl, hQu2⟩ rfl

set_option maxHeartbeats 2000000 in
theorem m_atOf2 (S : ST) (T : TD) (n : Nat) (b : Nat → Nat) (n' : Nat) (b' : Nat → Nat) (hL : ML T n b n' b' S) (hto : tok T) (w k : Nat) (hw : w < 24) (hk : k < tnb T) : EX me_R_atOf 8 [.ref 48, .int (nI w), .int (nI k), .int (nI 2)] S (fun r u => r = some (.int (nI (vgr (vo T (w + 1)) k))) ∧ QM S u) := by
  refine EX.of mok_R_atOf (Nat.le_of_ble_eq_true rfl) ?_
  have n8 := hto.1
  refine run_ok 1 (c' := (1, [(0, .ref 48), (1, .int (nI w)), (2, .int (nI k)), (3, .int (nI 2))], [.ref 48], S)) rfl ?_
  refine x_callV [] rfl cv_R_runsTold.1 lk_7_226 cv_R_runsTold.2.1 cv_R_runsTold.2.2.1 rfl cv_R_runsTold.2.2.2.1 rfl rfl (Nat.le_of_ble_eq_true rfl) (by decide) cv_R_runsTold.2.2.2.2 (m_runsTold S T n b n' b' (hL.stay QM.rf) hto) ?_
  rintro r u1 ⟨hr, hTu1, hMu1, hCu1, hhu1, hqu1⟩
  rw [hr]
  clear hr r
  have hQu1 : QM S u1 := QM.rf.tr hqu1
  obtain ⟨t1, t2, t3, t4, t5, t6, t7, t8, t9, t10, t11⟩ := id hTu1
  obtain ⟨m1, m2, m3, m4, m5, m6, m7⟩ := id hMu1
  refine run_ok 3 (c' := (8, [(0, .ref 48), (1, .int (nI w)), (2, .int (nI k)), (3, .int (nI 2))], [.int ((nI 8) * (nI w))], u1)) rfl ?_
  refine x_top (v' := nI (8 * w)) (pk_mul _ _) ?_
  refine run_ok 2 (c' := (10, [(0, .ref 48), (1, .int (nI w)), (2, .int (nI k)), (3, .int (nI 2))], [.int ((nI (8 * w)) + (nI k))], u1)) rfl ?_
  refine x_top (v' := nI ((8 * w) + k)) (nI_add _ _) ?_
  refine run_ok 2 (c' := (13, [(0, .ref 48), (1, .int (nI w)), (2, .int (nI k)), (3, .int (nI 2)), (4, .int (nI ((8 * w) + k)))], [.int (nI 2)], u1)) rfl ?_
  refine x_ifN_ne 26 rfl rfl (by omega) (fun _ => ?_) (fun hn => absurd hn (by decide))
  refine run_ok 2 (c' := (28, [(0, .ref 48), (1, .int (nI w)), (2, .int (nI k)), (3, .int (nI 2)), (4, .int (nI ((8 * w) + k)))], [.int (nI 1), .int (nI 2)], u1)) rfl ?_
  refine x_icmpN_ne 41 rfl rfl (by omega) (by omega) (fun _ => ?_) (fun hn => absurd hn (by decide))
  refine run_ok 2 (c' := (43, [(0, .ref 48), (1, .int (nI w)), (2, .int (nI k)), (3, .int (nI 2)), (4, .int (nI ((8 * w) + k)))], [.int (nI 2), .int (nI 2)], u1)) rfl ?_
  refine x_icmpN_ne 56 rfl rfl (by omega) (by omega) (fun hn => absurd hn (by decide)) (fun _ => ?_)
  refine run_ok 3 (c' := (52, [(0, .ref 48), (1, .int (nI w)), (2, .int (nI k)), (3, .int (nI 2)), (4, .int (nI ((8 * w) + k)))], [.int (nI ((8 * w) + k)), .ref 70], u1)) rfl ?_
  refine x_iaN (nI (vgr (vo T (w + 1)) k)) rfl rfl (by decide) (by omega) (hCu1.1 w hw k hk).2.2.1 ?_
  refine run_ok 1 (c' := (63, [(0, .ref 48), (1, .int (nI w)), (2, .int (nI k)), (3, .int (nI 2)), (4, .int (nI ((8 * w) + k)))], [.int (nI (vgr (vo T (w + 1)) k))], u1)) rfl ?_
  exact x_ret (r := some (.int (nI (vgr (vo T (w + 1)) k)))) rfl rfl trivial ⟨rfl, hQu1⟩ rfl

set_option maxHeartbeats 2000000 in
theorem m_at_ok2 (S : ST) (T : TD) (n : Nat) (b : Nat → Nat) (n' : Nat) (b' : Nat → Nat) (hL : ML T n b n' b' S) (hto : tok T) (w k : Nat) (hw : w < 24) (hk : k < tnb T) : EX me_R_at 9 [.ref 48, .int (nI w), .int (nI k), .int (nI 2)] S (fun r u => r = some (.int (nI (vgr (vo T (w + 1)) k))) ∧ QM S u) := by
  refine EX.of mok_R_at (Nat.le_of_ble_eq_true rfl) ?_
  have n8 := hto.1
  refine run_ok 1 (c' := (1, [(0, .ref 48), (1, .int (nI w)), (2, .int (nI k)), (3, .int (nI 2))], [.int (nI w)], S)) rfl ?_
  refine x_callS [.int (nI w)] rfl cs_R_isWeek.1 lk_7_130 cs_R_isWeek.2.1 rfl rfl (Nat.le_of_ble_eq_true rfl) (by decide) cs_R_isWeek.2.2 (m_isWeek S (nI w)) ?_
  rintro r u ⟨hr, hu⟩
  rw [hr, hu]
  clear hr hu r u
  refine x_ifB_eq 34 rfl rfl (fun hn => absurd hn (fun z => z (inr_t hw (by decide)))) (fun h4 => ?_)
  refine run_ok 2 (c' := (9, [(0, .ref 48), (1, .int (nI w)), (2, .int (nI k)), (3, .int (nI 2))], [.int (nI k), .ref 48], S)) rfl ?_
  refine x_callV [.int (nI k)] rfl cv_R_isBoat.1 lk_7_163 cv_R_isBoat.2.1 cv_R_isBoat.2.2.1 rfl cv_R_isBoat.2.2.2.1 rfl rfl (Nat.le_of_ble_eq_true rfl) (by decide) cv_R_isBoat.2.2.2.2 (m_isBoat S T n b n' b' (hL.stay QM.rf) hto (nI k)) ?_
  rintro r u1 ⟨hr, hRu1, hqu1⟩
  rw [hr]
  clear hr r
  have hQu1 : QM S u1 := QM.rf.tr hqu1
  refine x_ifB_eq 34 rfl rfl (fun hn => absurd hn (fun z => z (inr_t hk (by omega)))) (fun h12 => ?_)
  refine run_ok 3 (c' := (18, [(0, .ref 48), (1, .int (nI w)), (2, .int (nI k)), (3, .int (nI 2))], [.int (nI 3), .int (nI 0), .int (nI 2)], u1)) rfl ?_
  refine x_callS [.int (nI 2), .int (nI 0), .int (nI 3)] rfl cs_R_in.1 lk_7_115 cs_R_in.2.1 rfl rfl (Nat.le_of_ble_eq_true rfl) (by decide) cs_R_in.2.2 (m_in u1 (nI 2) (nI 0) (nI 3)) ?_
  rintro r u ⟨hr, hu⟩
  rw [hr, hu]
  clear hr hu r u
  refine x_top (v' := b2 (0 ≤ nI 2 ∧ nI 2 < nI 4)) (b2_c (and_congr Iff.rfl (le_nI (n := 3) (by decide)))) ?_
  refine x_ifB_eq 34 rfl rfl (fun hn => absurd hn (fun z => z (inr_t (by decide) (by decide)))) (fun h21 => ?_)
  refine run_ok 4 (c' := (28, [(0, .ref 48), (1, .int (nI w)), (2, .int (nI k)), (3, .int (nI 2))], [.int (nI 2), .int (nI k), .int (nI w), .ref 48], u1)) rfl ?_
  refine x_callV [.int (nI w), .int (nI k), .int (nI 2)] rfl cv_R_atOf.1 lk_7_232 cv_R_atOf.2.1 cv_R_atOf.2.2.1 rfl cv_R_atOf.2.2.2.1 rfl rfl (Nat.le_of_ble_eq_true rfl) (by decide) cv_R_atOf.2.2.2.2 (m_atOf2 u1 T n b n' b' (hL.stay hQu1) hto w k hw hk) ?_
  rintro r u2 ⟨hr, hqu2⟩
  rw [hr]
  clear hr r
  have hQu2 : QM S u2 := hQu1.tr hqu2
  refine run_ok 1 (c' := (36, [(0, .ref 48), (1, .int (nI w)), (2, .int (nI k)), (3, .int (nI 2))], [.int (nI (vgr (vo T (w + 1)) k))], u2)) rfl ?_
  exact x_ret (r := some (.int (nI (vgr (vo T (w + 1)) k)))) rfl rfl trivial ⟨rfl, hQu2⟩ rfl

set_option maxHeartbeats 2000000 in
theorem m_atOf3 (S : ST) (T : TD) (n : Nat) (b : Nat → Nat) (n' : Nat) (b' : Nat → Nat) (hL : ML T n b n' b' S) (hto : tok T) (w k : Nat) (hw : w < 24) (hk : k < tnb T) : EX me_R_atOf 8 [.ref 48, .int (nI w), .int (nI k), .int (nI 3)] S (fun r u => r = some (.int (nI (vho (vo T (w + 1)) k))) ∧ QM S u) := by
  refine EX.of mok_R_atOf (Nat.le_of_ble_eq_true rfl) ?_
  have n8 := hto.1
  refine run_ok 1 (c' := (1, [(0, .ref 48), (1, .int (nI w)), (2, .int (nI k)), (3, .int (nI 3))], [.ref 48], S)) rfl ?_
  refine x_callV [] rfl cv_R_runsTold.1 lk_7_226 cv_R_runsTold.2.1 cv_R_runsTold.2.2.1 rfl cv_R_runsTold.2.2.2.1 rfl rfl (Nat.le_of_ble_eq_true rfl) (by decide) cv_R_runsTold.2.2.2.2 (m_runsTold S T n b n' b' (hL.stay QM.rf) hto) ?_
  rintro r u1 ⟨hr, hTu1, hMu1, hCu1, hhu1, hqu1⟩
  rw [hr]
  clear hr r
  have hQu1 : QM S u1 := QM.rf.tr hqu1
  obtain ⟨t1, t2, t3, t4, t5, t6, t7, t8, t9, t10, t11⟩ := id hTu1
  obtain ⟨m1, m2, m3, m4, m5, m6, m7⟩ := id hMu1
  refine run_ok 3 (c' := (8, [(0, .ref 48), (1, .int (nI w)), (2, .int (nI k)), (3, .int (nI 3))], [.int ((nI 8) * (nI w))], u1)) rfl ?_
  refine x_top (v' := nI (8 * w)) (pk_mul _ _) ?_
  refine run_ok 2 (c' := (10, [(0, .ref 48), (1, .int (nI w)), (2, .int (nI k)), (3, .int (nI 3))], [.int ((nI (8 * w)) + (nI k))], u1)) rfl ?_
  refine x_top (v' := nI ((8 * w) + k)) (nI_add _ _) ?_
  refine run_ok 2 (c' := (13, [(0, .ref 48), (1, .int (nI w)), (2, .int (nI k)), (3, .int (nI 3)), (4, .int (nI ((8 * w) + k)))], [.int (nI 3)], u1)) rfl ?_
  refine x_ifN_ne 26 rfl rfl (by omega) (fun _ => ?_) (fun hn => absurd hn (by decide))
  refine run_ok 2 (c' := (28, [(0, .ref 48), (1, .int (nI w)), (2, .int (nI k)), (3, .int (nI 3)), (4, .int (nI ((8 * w) + k)))], [.int (nI 1), .int (nI 3)], u1)) rfl ?_
  refine x_icmpN_ne 41 rfl rfl (by omega) (by omega) (fun _ => ?_) (fun hn => absurd hn (by decide))
  refine run_ok 2 (c' := (43, [(0, .ref 48), (1, .int (nI w)), (2, .int (nI k)), (3, .int (nI 3)), (4, .int (nI ((8 * w) + k)))], [.int (nI 2), .int (nI 3)], u1)) rfl ?_
  refine x_icmpN_ne 56 rfl rfl (by omega) (by omega) (fun _ => ?_) (fun hn => absurd hn (by decide))
  refine run_ok 3 (c' := (62, [(0, .ref 48), (1, .int (nI w)), (2, .int (nI k)), (3, .int (nI 3)), (4, .int (nI ((8 * w) + k)))], [.int (nI ((8 * w) + k)), .ref 71], u1)) rfl ?_
  refine x_iaN (nI (vho (vo T (w + 1)) k)) rfl rfl (by decide) (by omega) (hCu1.1 w hw k hk).2.2.2 ?_
  exact x_ret (r := some (.int (nI (vho (vo T (w + 1)) k)))) rfl rfl trivial ⟨rfl, hQu1⟩ rfl

set_option maxHeartbeats 2000000 in
theorem m_at_ok3 (S : ST) (T : TD) (n : Nat) (b : Nat → Nat) (n' : Nat) (b' : Nat → Nat) (hL : ML T n b n' b' S) (hto : tok T) (w k : Nat) (hw : w < 24) (hk : k < tnb T) : EX me_R_at 9 [.ref 48, .int (nI w), .int (nI k), .int (nI 3)] S (fun r u => r = some (.int (nI (vho (vo T (w + 1)) k))) ∧ QM S u) := by
  refine EX.of mok_R_at (Nat.le_of_ble_eq_true rfl) ?_
  have n8 := hto.1
  refine run_ok 1 (c' := (1, [(0, .ref 48), (1, .int (nI w)), (2, .int (nI k)), (3, .int (nI 3))], [.int (nI w)], S)) rfl ?_
  refine x_callS [.int (nI w)] rfl cs_R_isWeek.1 lk_7_130 cs_R_isWeek.2.1 rfl rfl (Nat.le_of_ble_eq_true rfl) (by decide) cs_R_isWeek.2.2 (m_isWeek S (nI w)) ?_
  rintro r u ⟨hr, hu⟩
  rw [hr, hu]
  clear hr hu r u
  refine x_ifB_eq 34 rfl rfl (fun hn => absurd hn (fun z => z (inr_t hw (by decide)))) (fun h4 => ?_)
  refine run_ok 2 (c' := (9, [(0, .ref 48), (1, .int (nI w)), (2, .int (nI k)), (3, .int (nI 3))], [.int (nI k), .ref 48], S)) rfl ?_
  refine x_callV [.int (nI k)] rfl cv_R_isBoat.1 lk_7_163 cv_R_isBoat.2.1 cv_R_isBoat.2.2.1 rfl cv_R_isBoat.2.2.2.1 rfl rfl (Nat.le_of_ble_eq_true rfl) (by decide) cv_R_isBoat.2.2.2.2 (m_isBoat S T n b n' b' (hL.stay QM.rf) hto (nI k)) ?_
  rintro r u1 ⟨hr, hRu1, hqu1⟩
  rw [hr]
  clear hr r
  have hQu1 : QM S u1 := QM.rf.tr hqu1
  refine x_ifB_eq 34 rfl rfl (fun hn => absurd hn (fun z => z (inr_t hk (by omega)))) (fun h12 => ?_)
  refine run_ok 3 (c' := (18, [(0, .ref 48), (1, .int (nI w)), (2, .int (nI k)), (3, .int (nI 3))], [.int (nI 3), .int (nI 0), .int (nI 3)], u1)) rfl ?_
  refine x_callS [.int (nI 3), .int (nI 0), .int (nI 3)] rfl cs_R_in.1 lk_7_115 cs_R_in.2.1 rfl rfl (Nat.le_of_ble_eq_true rfl) (by decide) cs_R_in.2.2 (m_in u1 (nI 3) (nI 0) (nI 3)) ?_
  rintro r u ⟨hr, hu⟩
  rw [hr, hu]
  clear hr hu r u
  refine x_top (v' := b2 (0 ≤ nI 3 ∧ nI 3 < nI 4)) (b2_c (and_congr Iff.rfl (le_nI (n := 3) (by decide)))) ?_
  refine x_ifB_eq 34 rfl rfl (fun hn => absurd hn (fun z => z (inr_t (by decide) (by decide)))) (fun h21 => ?_)
  refine run_ok 4 (c' := (28, [(0, .ref 48), (1, .int (nI w)), (2, .int (nI k)), (3, .int (nI 3))], [.int (nI 3), .int (nI k), .int (nI w), .ref 48], u1)) rfl ?_
  refine x_callV [.int (nI w), .int (nI k), .int (nI 3)] rfl cv_R_atOf.1 lk_7_232 cv_R_atOf.2.1 cv_R_atOf.2.2.1 rfl cv_R_atOf.2.2.2.1 rfl rfl (Nat.le_of_ble_eq_true rfl) (by decide) cv_R_atOf.2.2.2.2 (m_atOf3 u1 T n b n' b' (hL.stay hQu1) hto w k hw hk) ?_
  rintro r u2 ⟨hr, hqu2⟩
  rw [hr]
  clear hr r
  have hQu2 : QM S u2 := hQu1.tr hqu2
  refine run_ok 1 (c' := (36, [(0, .ref 48), (1, .int (nI w)), (2, .int (nI k)), (3, .int (nI 3))], [.int (nI (vho (vo T (w + 1)) k))], u2)) rfl ?_
  exact x_ret (r := some (.int (nI (vho (vo T (w + 1)) k)))) rfl rfl trivial ⟨rfl, hQu2⟩ rfl

set_option maxHeartbeats 2000000 in
theorem m_at_bad (S : ST) (T : TD) (n : Nat) (b : Nat → Nat) (n' : Nat) (b' : Nat → Nat) (hL : ML T n b n' b' S) (hto : tok T) (x y z : Int32) (hbad : ¬ ((0 ≤ x ∧ x < nI 24) ∧ (0 ≤ y ∧ y < nI (tnb T)) ∧ (0 ≤ z ∧ z < nI 4))) : EX me_R_at 9 [.ref 48, .int x, .int y, .int z] S (fun r u => r = some (.int ((-2))) ∧ QM S u) := by
  refine EX.of mok_R_at (Nat.le_of_ble_eq_true rfl) ?_
  refine run_ok 1 (c' := (1, [(0, .ref 48), (1, .int x), (2, .int y), (3, .int z)], [.int x], S)) rfl ?_
  refine x_callS [.int x] rfl cs_R_isWeek.1 lk_7_130 cs_R_isWeek.2.1 rfl rfl (Nat.le_of_ble_eq_true rfl) (by decide) cs_R_isWeek.2.2 (m_isWeek S (x)) ?_
  rintro r u ⟨hr, hu⟩
  rw [hr, hu]
  clear hr hu r u
  refine x_ifB_eq 34 rfl rfl (fun h4 => ?_) (fun h4 => ?_)
  · refine run_ok 1 (c' := (36, [(0, .ref 48), (1, .int x), (2, .int y), (3, .int z)], [.int (-2)], S)) rfl ?_
    exact x_ret (r := some (.int (-2))) rfl rfl trivial ⟨rfl, QM.rf⟩ rfl
  · refine run_ok 2 (c' := (9, [(0, .ref 48), (1, .int x), (2, .int y), (3, .int z)], [.int y, .ref 48], S)) rfl ?_
    refine x_callV [.int y] rfl cv_R_isBoat.1 lk_7_163 cv_R_isBoat.2.1 cv_R_isBoat.2.2.1 rfl cv_R_isBoat.2.2.2.1 rfl rfl (Nat.le_of_ble_eq_true rfl) (by decide) cv_R_isBoat.2.2.2.2 (m_isBoat S T n b n' b' (hL.stay QM.rf) hto (y)) ?_
    rintro r u1 ⟨hr, hRu1, hqu1⟩
    rw [hr]
    clear hr r
    have hQu1 : QM S u1 := QM.rf.tr hqu1
    refine x_ifB_eq 34 rfl rfl (fun h12 => ?_) (fun h12 => ?_)
    · refine run_ok 1 (c' := (36, [(0, .ref 48), (1, .int x), (2, .int y), (3, .int z)], [.int (-2)], u1)) rfl ?_
      exact x_ret (r := some (.int (-2))) rfl rfl trivial ⟨rfl, hQu1⟩ rfl
    · refine run_ok 3 (c' := (18, [(0, .ref 48), (1, .int x), (2, .int y), (3, .int z)], [.int (nI 3), .int (nI 0), .int z], u1)) rfl ?_
      refine x_callS [.int z, .int (nI 0), .int (nI 3)] rfl cs_R_in.1 lk_7_115 cs_R_in.2.1 rfl rfl (Nat.le_of_ble_eq_true rfl) (by decide) cs_R_in.2.2 (m_in u1 (z) (nI 0) (nI 3)) ?_
      rintro r u ⟨hr, hu⟩
      rw [hr, hu]
      clear hr hu r u
      refine x_top (v' := b2 (0 ≤ z ∧ z < nI 4)) (b2_c (and_congr Iff.rfl (le_nI (n := 3) (by decide)))) ?_
      refine x_ifB_eq 34 rfl rfl (fun h21 => ?_) (fun h21 => ?_)
      · refine run_ok 1 (c' := (36, [(0, .ref 48), (1, .int x), (2, .int y), (3, .int z)], [.int (-2)], u1)) rfl ?_
        exact x_ret (r := some (.int (-2))) rfl rfl trivial ⟨rfl, hQu1⟩ rfl
      · exact absurd ⟨h4, h12, h21⟩ hbad

set_option maxHeartbeats 2000000 in
theorem m_manyAt (S : ST) (T : TD) (hT : MT T S) (hC : RC T 24 S) (hto : tok T) (w x : Nat) (hw : w < 24) (hx : x ≤ 3)  : EX me_R_manyAt 0 [.ref 48, .int (nI w), .int (nI x)] S (fun r u => r = some (.int (nI (cnt (fun k => decide (vis (vo T (w + 1)) k = x)) (tnb T)))) ∧ u = S) := by
  refine EX.of mok_R_manyAt (Nat.le_of_ble_eq_true rfl) ?_
  have n8 := hto.1
  obtain ⟨t1, t2, t3, t4, t5, t6, t7, t8, t9, t10, t11⟩ := id hT
  refine run_ok 4 (c' := (5, [(0, .ref 48), (1, .int (nI w)), (2, .int (nI x)), (3, .int (nI 0)), (4, .int (nI 0))], [], S)) rfl ?_
  refine loop_up (P := fun i => BX me_R_manyAt 0 none (fun r u => r = some (.int (nI (cnt (fun k => decide (vis (vo T (w + 1)) k = x)) (tnb T)))) ∧ u = S) (5, [(0, .ref 48), (1, .int (nI w)), (2, .int (nI x)), (3, .int (nI (cnt (fun k => decide (vis (vo T (w + 1)) k = x)) i))), (4, .int (nI i))], [], S)) (tnb T) ?_ ?_ 0 (by omega)
  · skip
    refine run_ok 3 (c' := (11, [(0, .ref 48), (1, .int (nI w)), (2, .int (nI x)), (3, .int (nI (cnt (fun k => decide (vis (vo T (w + 1)) k = x)) (tnb T)))), (4, .int (nI (tnb T)))], [.int (S.1 48 5), .int (nI (tnb T))], S)) rfl ?_
    refine x_top (v' := nI (tnb T)) t9 ?_
    refine x_icmpN_ge 44 rfl rfl (by omega) (by omega) (fun h11 => ?_) (fun hn => absurd (Nat.le_refl _) hn)
    refine run_ok 1 (c' := (45, [(0, .ref 48), (1, .int (nI w)), (2, .int (nI x)), (3, .int (nI (cnt (fun k => decide (vis (vo T (w + 1)) k = x)) (tnb T)))), (4, .int (nI (tnb T)))], [.int (nI (cnt (fun k => decide (vis (vo T (w + 1)) k = x)) (tnb T)))], S)) rfl ?_
    exact x_ret (r := some (.int (nI (cnt (fun k => decide (vis (vo T (w + 1)) k = x)) (tnb T))))) rfl rfl trivial ⟨rfl, rfl⟩ rfl
  · intro i hi ih
    have q1 := ((vk_vo hto (w + 1) (by omega)).1.2.1 i (by omega)).1
    refine run_ok 3 (c' := (11, [(0, .ref 48), (1, .int (nI w)), (2, .int (nI x)), (3, .int (nI (cnt (fun k => decide (vis (vo T (w + 1)) k = x)) i))), (4, .int (nI i))], [.int (S.1 48 5), .int (nI i)], S)) rfl ?_
    refine x_top (v' := nI (tnb T)) t9 ?_
    refine x_icmpN_ge 44 rfl rfl (by omega) (by omega) (fun hn => absurd hn (show ¬ tnb T ≤ i by omega)) (fun h11 => ?_)
    refine run_ok 6 (c' := (23, [(0, .ref 48), (1, .int (nI w)), (2, .int (nI x)), (3, .int (nI (cnt (fun k => decide (vis (vo T (w + 1)) k = x)) i))), (4, .int (nI i))], [.int ((nI 8) * (nI w)), .ref 68, .int (nI (cnt (fun k => decide (vis (vo T (w + 1)) k = x)) i))], S)) rfl ?_
    refine x_top (v' := nI (8 * w)) (pk_mul _ _) ?_
    refine run_ok 2 (c' := (26, [(0, .ref 48), (1, .int (nI w)), (2, .int (nI x)), (3, .int (nI (cnt (fun k => decide (vis (vo T (w + 1)) k = x)) i))), (4, .int (nI i))], [.int ((nI (8 * w)) + (nI i)), .ref 68, .int (nI (cnt (fun k => decide (vis (vo T (w + 1)) k = x)) i))], S)) rfl ?_
    refine x_top (v' := nI ((8 * w) + i)) (nI_add _ _) ?_
    refine x_iaN (nI (vis (vo T (w + 1)) i)) rfl rfl (by decide) (by omega) (hC.1 w hw i hi).1 ?_
    refine run_ok 1 (c' := (28, [(0, .ref 48), (1, .int (nI w)), (2, .int (nI x)), (3, .int (nI (cnt (fun k => decide (vis (vo T (w + 1)) k = x)) i))), (4, .int (nI i))], [.int (nI x), .int (nI (vis (vo T (w + 1)) i)), .int (nI (cnt (fun k => decide (vis (vo T (w + 1)) k = x)) i))], S)) rfl ?_
    refine x_icmpN_ne 35 rfl rfl (by omega) (by omega) (fun h28 => ?_) (fun h28 => ?_)
    · refine run_ok 2 (c' := (37, [(0, .ref 48), (1, .int (nI w)), (2, .int (nI x)), (3, .int (nI (cnt (fun k => decide (vis (vo T (w + 1)) k = x)) i))), (4, .int (nI i))], [.int ((nI (cnt (fun k => decide (vis (vo T (w + 1)) k = x)) i)) + (nI 0))], S)) rfl ?_
      refine x_top (v' := nI ((cnt (fun k => decide (vis (vo T (w + 1)) k = x)) i) + 0)) (nI_add _ _) ?_
      refine run_ok 2 (c' := (41, [(0, .ref 48), (1, .int (nI w)), (2, .int (nI x)), (3, .int (nI ((cnt (fun k => decide (vis (vo T (w + 1)) k = x)) i) + 0))), (4, .int (nI i + nI 1))], [], S)) rfl ?_
      rw [nI_add i 1]
      refine run_ok 1 (c' := (5, [(0, .ref 48), (1, .int (nI w)), (2, .int (nI x)), (3, .int (nI ((cnt (fun k => decide (vis (vo T (w + 1)) k = x)) i) + 0))), (4, .int (nI (i + 1)))], [], S)) rfl ?_
      refine x_less [0, 1, 2, 3, 4] rfl ?_
      rw [show cnt (fun k => decide (vis (vo T (w + 1)) k = x)) (i + 1) = cnt (fun k => decide (vis (vo T (w + 1)) k = x)) i from cnt_z (by simpa using h28)] at ih
      rw [Nat.add_zero]
      exact ih
    · refine run_ok 3 (c' := (37, [(0, .ref 48), (1, .int (nI w)), (2, .int (nI x)), (3, .int (nI (cnt (fun k => decide (vis (vo T (w + 1)) k = x)) i))), (4, .int (nI i))], [.int ((nI (cnt (fun k => decide (vis (vo T (w + 1)) k = x)) i)) + (nI 1))], S)) rfl ?_
      refine x_top (v' := nI ((cnt (fun k => decide (vis (vo T (w + 1)) k = x)) i) + 1)) (nI_add _ _) ?_
      refine run_ok 2 (c' := (41, [(0, .ref 48), (1, .int (nI w)), (2, .int (nI x)), (3, .int (nI ((cnt (fun k => decide (vis (vo T (w + 1)) k = x)) i) + 1))), (4, .int (nI i + nI 1))], [], S)) rfl ?_
      rw [nI_add i 1]
      refine run_ok 1 (c' := (5, [(0, .ref 48), (1, .int (nI w)), (2, .int (nI x)), (3, .int (nI ((cnt (fun k => decide (vis (vo T (w + 1)) k = x)) i) + 1))), (4, .int (nI (i + 1)))], [], S)) rfl ?_
      refine x_less [0, 1, 2, 3, 4] rfl ?_
      rw [show cnt (fun k => decide (vis (vo T (w + 1)) k = x)) (i + 1) = cnt (fun k => decide (vis (vo T (w + 1)) k = x)) i + 1 from cnt_s (by simpa using h28)] at ih
      exact ih

set_option maxHeartbeats 2000000 in
theorem m_afloatOf (S : ST) (T : TD) (n : Nat) (b : Nat → Nat) (n' : Nat) (b' : Nat → Nat) (hL : ML T n b n' b' S) (hto : tok T) (w : Nat) (hw : w < 24) : EX me_R_afloatOf 8 [.ref 48, .int (nI w)] S (fun r u => r = some (.int (nI (cnt (fun k => decide (vis (vo T (w + 1)) k = 1)) (tnb T)))) ∧ QM S u) := by
  refine EX.of mok_R_afloatOf (Nat.le_of_ble_eq_true rfl) ?_
  refine run_ok 1 (c' := (1, [(0, .ref 48), (1, .int (nI w))], [.ref 48], S)) rfl ?_
  refine x_callV [] rfl cv_R_runsTold.1 lk_7_226 cv_R_runsTold.2.1 cv_R_runsTold.2.2.1 rfl cv_R_runsTold.2.2.2.1 rfl rfl (Nat.le_of_ble_eq_true rfl) (by decide) cv_R_runsTold.2.2.2.2 (m_runsTold S T n b n' b' (hL.stay QM.rf) hto) ?_
  rintro r u1 ⟨hr, hTu1, hMu1, hCu1, hhu1, hqu1⟩
  rw [hr]
  clear hr r
  have hQu1 : QM S u1 := QM.rf.tr hqu1
  obtain ⟨t1, t2, t3, t4, t5, t6, t7, t8, t9, t10, t11⟩ := id hTu1
  obtain ⟨m1, m2, m3, m4, m5, m6, m7⟩ := id hMu1
  refine run_ok 3 (c' := (7, [(0, .ref 48), (1, .int (nI w))], [.int (nI 1), .int (nI w), .ref 48], u1)) rfl ?_
  refine x_callV [.int (nI w), .int (nI 1)] rfl cv_R_manyAt.1 lk_7_235 cv_R_manyAt.2.1 cv_R_manyAt.2.2.1 rfl cv_R_manyAt.2.2.2.1 rfl rfl (Nat.le_of_ble_eq_true rfl) (by decide) cv_R_manyAt.2.2.2.2 (m_manyAt u1 T hTu1 hCu1 hto w 1 (by omega) (by decide)) ?_
  rintro r z ⟨hr, hu⟩
  rw [hr, hu]
  clear hr hu r z
  exact x_ret (r := some (.int (nI (cnt (fun k => decide (vis (vo T (w + 1)) k = 1)) (tnb T))))) rfl rfl trivial ⟨rfl, hQu1⟩ rfl

set_option maxHeartbeats 2000000 in
theorem m_afloat_ok (S : ST) (T : TD) (n : Nat) (b : Nat → Nat) (n' : Nat) (b' : Nat → Nat) (hL : ML T n b n' b' S) (hto : tok T) (w : Nat) (hw : w < 24) : EX me_R_afloat 9 [.ref 48, .int (nI w)] S (fun r u => r = some (.int (nI (cnt (fun k => decide (vis (vo T (w + 1)) k = 1)) (tnb T)))) ∧ QM S u) := by
  refine EX.of mok_R_afloat (Nat.le_of_ble_eq_true rfl) ?_
  refine run_ok 1 (c' := (1, [(0, .ref 48), (1, .int (nI w))], [.int (nI w)], S)) rfl ?_
  refine x_callS [.int (nI w)] rfl cs_R_isWeek.1 lk_7_130 cs_R_isWeek.2.1 rfl rfl (Nat.le_of_ble_eq_true rfl) (by decide) cs_R_isWeek.2.2 (m_isWeek S (nI w)) ?_
  rintro r u ⟨hr, hu⟩
  rw [hr, hu]
  clear hr hu r u
  refine x_ifB_eq 15 rfl rfl (fun hn => absurd hn (fun z => z (inr_t hw (by decide)))) (fun h4 => ?_)
  refine run_ok 2 (c' := (9, [(0, .ref 48), (1, .int (nI w))], [.int (nI w), .ref 48], S)) rfl ?_
  refine x_callV [.int (nI w)] rfl cv_R_afloatOf.1 lk_7_238 cv_R_afloatOf.2.1 cv_R_afloatOf.2.2.1 rfl cv_R_afloatOf.2.2.2.1 rfl rfl (Nat.le_of_ble_eq_true rfl) (by decide) cv_R_afloatOf.2.2.2.2 (m_afloatOf S T n b n' b' (hL.stay QM.rf) hto w hw) ?_
  rintro r u1 ⟨hr, hqu1⟩
  rw [hr]
  clear hr r
  have hQu1 : QM S u1 := QM.rf.tr hqu1
  refine run_ok 1 (c' := (17, [(0, .ref 48), (1, .int (nI w))], [.int (nI (cnt (fun k => decide (vis (vo T (w + 1)) k = 1)) (tnb T)))], u1)) rfl ?_
  exact x_ret (r := some (.int (nI (cnt (fun k => decide (vis (vo T (w + 1)) k = 1)) (tnb T))))) rfl rfl trivial ⟨rfl, hQu1⟩ rfl

set_option maxHeartbeats 2000000 in
theorem m_afloat_bad (S : ST) (T : TD) (n : Nat) (b : Nat → Nat) (n' : Nat) (b' : Nat → Nat) (hL : ML T n b n' b' S) (hto : tok T) (x : Int32) (hbad : ¬ (0 ≤ x ∧ x < nI 24)) : EX me_R_afloat 9 [.ref 48, .int x] S (fun r u => r = some (.int ((-2))) ∧ QM S u) := by
  refine EX.of mok_R_afloat (Nat.le_of_ble_eq_true rfl) ?_
  refine run_ok 1 (c' := (1, [(0, .ref 48), (1, .int x)], [.int x], S)) rfl ?_
  refine x_callS [.int x] rfl cs_R_isWeek.1 lk_7_130 cs_R_isWeek.2.1 rfl rfl (Nat.le_of_ble_eq_true rfl) (by decide) cs_R_isWeek.2.2 (m_isWeek S (x)) ?_
  rintro r u ⟨hr, hu⟩
  rw [hr, hu]
  clear hr hu r u
  refine x_ifB_eq 15 rfl rfl (fun h4 => ?_) (fun h4 => ?_)
  · refine run_ok 1 (c' := (17, [(0, .ref 48), (1, .int x)], [.int (-2)], S)) rfl ?_
    exact x_ret (r := some (.int (-2))) rfl rfl trivial ⟨rfl, QM.rf⟩ rfl
  · exact absurd h4 hbad

set_option maxHeartbeats 2000000 in
theorem m_namedOf0 (S : ST) (T : TD) (n : Nat) (b : Nat → Nat) (n' : Nat) (b' : Nat → Nat) (hL : ML T n b n' b' S) (hto : tok T) (p : Nat) (hp : p < 8) : EX me_R_namedOf 8 [.ref 48, .int (nI p), .int (nI 0)] S (fun r u => r = some (.int (nI (cnt (fun k => decide (vnm (vo T 24) k = p ∧ (0 = 1 → vis (vo T 24) k = 2))) (tnb T)))) ∧ QM S u) := by
  refine EX.of mok_R_namedOf (Nat.le_of_ble_eq_true rfl) ?_
  have n8 := hto.1
  refine run_ok 1 (c' := (1, [(0, .ref 48), (1, .int (nI p)), (2, .int (nI 0))], [.ref 48], S)) rfl ?_
  refine x_callV [] rfl cv_R_runsTold.1 lk_7_226 cv_R_runsTold.2.1 cv_R_runsTold.2.2.1 rfl cv_R_runsTold.2.2.2.1 rfl rfl (Nat.le_of_ble_eq_true rfl) (by decide) cv_R_runsTold.2.2.2.2 (m_runsTold S T n b n' b' (hL.stay QM.rf) hto) ?_
  rintro r u1 ⟨hr, hTu1, hMu1, hCu1, hhu1, hqu1⟩
  rw [hr]
  clear hr r
  have hQu1 : QM S u1 := QM.rf.tr hqu1
  obtain ⟨t1, t2, t3, t4, t5, t6, t7, t8, t9, t10, t11⟩ := id hTu1
  obtain ⟨m1, m2, m3, m4, m5, m6, m7⟩ := id hMu1
  refine run_ok 4 (c' := (9, [(0, .ref 48), (1, .int (nI p)), (2, .int (nI 0)), (3, .int (nI 0)), (4, .int (nI 0))], [], u1)) rfl ?_
  refine loop_up (P := fun i => BX me_R_namedOf 8 none (fun r u => r = some (.int (nI (cnt (fun k => decide (vnm (vo T 24) k = p ∧ (0 = 1 → vis (vo T 24) k = 2))) (tnb T)))) ∧ QM S u) (9, [(0, .ref 48), (1, .int (nI p)), (2, .int (nI 0)), (3, .int (nI (cnt (fun k => decide (vnm (vo T 24) k = p ∧ (0 = 1 → vis (vo T 24) k = 2))) i))), (4, .int (nI i))], [], u1)) (tnb T) ?_ ?_ 0 (by omega)
  · skip
    refine run_ok 3 (c' := (15, [(0, .ref 48), (1, .int (nI p)), (2, .int (nI 0)), (3, .int (nI (cnt (fun k => decide (vnm (vo T 24) k = p ∧ (0 = 1 → vis (vo T 24) k = 2))) (tnb T)))), (4, .int (nI (tnb T)))], [.int (u1.1 48 5), .int (nI (tnb T))], u1)) rfl ?_
    refine x_top (v' := nI (tnb T)) t9 ?_
    refine x_icmpN_ge 58 rfl rfl (by omega) (by omega) (fun h15 => ?_) (fun hn => absurd (Nat.le_refl _) hn)
    refine run_ok 1 (c' := (59, [(0, .ref 48), (1, .int (nI p)), (2, .int (nI 0)), (3, .int (nI (cnt (fun k => decide (vnm (vo T 24) k = p ∧ (0 = 1 → vis (vo T 24) k = 2))) (tnb T)))), (4, .int (nI (tnb T)))], [.int (nI (cnt (fun k => decide (vnm (vo T 24) k = p ∧ (0 = 1 → vis (vo T 24) k = 2))) (tnb T)))], u1)) rfl ?_
    exact x_ret (r := some (.int (nI (cnt (fun k => decide (vnm (vo T 24) k = p ∧ (0 = 1 → vis (vo T 24) k = 2))) (tnb T))))) rfl rfl trivial ⟨rfl, hQu1⟩ rfl
  · intro i hi ih
    have q1 := ((vk_vo hto 24 (by omega)).1.2.1 i (by omega))
    refine run_ok 3 (c' := (15, [(0, .ref 48), (1, .int (nI p)), (2, .int (nI 0)), (3, .int (nI (cnt (fun k => decide (vnm (vo T 24) k = p ∧ (0 = 1 → vis (vo T 24) k = 2))) i))), (4, .int (nI i))], [.int (u1.1 48 5), .int (nI i)], u1)) rfl ?_
    refine x_top (v' := nI (tnb T)) t9 ?_
    refine x_icmpN_ge 58 rfl rfl (by omega) (by omega) (fun hn => absurd hn (show ¬ tnb T ≤ i by omega)) (fun h15 => ?_)
    refine run_ok 4 (c' := (25, [(0, .ref 48), (1, .int (nI p)), (2, .int (nI 0)), (3, .int (nI (cnt (fun k => decide (vnm (vo T 24) k = p ∧ (0 = 1 → vis (vo T 24) k = 2))) i))), (4, .int (nI i))], [.int (nI i), .ref 65, .int (nI (cnt (fun k => decide (vnm (vo T 24) k = p ∧ (0 = 1 → vis (vo T 24) k = 2))) i))], u1)) rfl ?_
    refine x_iaN (nmv (vnm (vo T 24) i)) rfl rfl (by decide) (by omega) (m3 i (by omega)) ?_
    refine run_ok 1 (c' := (27, [(0, .ref 48), (1, .int (nI p)), (2, .int (nI 0)), (3, .int (nI (cnt (fun k => decide (vnm (vo T 24) k = p ∧ (0 = 1 → vis (vo T 24) k = 2))) i))), (4, .int (nI i))], [.int (nI p), .int (nmv (vnm (vo T 24) i)), .int (nI (cnt (fun k => decide (vnm (vo T 24) k = p ∧ (0 = 1 → vis (vo T 24) k = 2))) i))], u1)) rfl ?_
    refine x_icmp_ne 49 rfl rfl (fun h27 => ?_) (fun h27 => ?_)
    · refine run_ok 2 (c' := (51, [(0, .ref 48), (1, .int (nI p)), (2, .int (nI 0)), (3, .int (nI (cnt (fun k => decide (vnm (vo T 24) k = p ∧ (0 = 1 → vis (vo T 24) k = 2))) i))), (4, .int (nI i))], [.int ((nI (cnt (fun k => decide (vnm (vo T 24) k = p ∧ (0 = 1 → vis (vo T 24) k = 2))) i)) + (nI 0))], u1)) rfl ?_
      refine x_top (v' := nI ((cnt (fun k => decide (vnm (vo T 24) k = p ∧ (0 = 1 → vis (vo T 24) k = 2))) i) + 0)) (nI_add _ _) ?_
      refine run_ok 2 (c' := (55, [(0, .ref 48), (1, .int (nI p)), (2, .int (nI 0)), (3, .int (nI ((cnt (fun k => decide (vnm (vo T 24) k = p ∧ (0 = 1 → vis (vo T 24) k = 2))) i) + 0))), (4, .int (nI i + nI 1))], [], u1)) rfl ?_
      rw [nI_add i 1]
      refine run_ok 1 (c' := (9, [(0, .ref 48), (1, .int (nI p)), (2, .int (nI 0)), (3, .int (nI ((cnt (fun k => decide (vnm (vo T 24) k = p ∧ (0 = 1 → vis (vo T 24) k = 2))) i) + 0))), (4, .int (nI (i + 1)))], [], u1)) rfl ?_
      refine x_less [0, 1, 2, 3, 4] rfl ?_
      rw [show cnt (fun k => decide (vnm (vo T 24) k = p ∧ (0 = 1 → vis (vo T 24) k = 2))) (i + 1) = cnt (fun k => decide (vnm (vo T 24) k = p ∧ (0 = 1 → vis (vo T 24) k = 2))) i from cnt_z (decide_eq_false (fun z => by first | exact h42 (z.2 rfl) | exact h27 ((nmv_eqp q1.2.1 hp).mpr z.1)))] at ih
      rw [Nat.add_zero]
      exact ih
    · refine run_ok 1 (c' := (31, [(0, .ref 48), (1, .int (nI p)), (2, .int (nI 0)), (3, .int (nI (cnt (fun k => decide (vnm (vo T 24) k = p ∧ (0 = 1 → vis (vo T 24) k = 2))) i))), (4, .int (nI i))], [.int (nI 0), .int (nI (cnt (fun k => decide (vnm (vo T 24) k = p ∧ (0 = 1 → vis (vo T 24) k = 2))) i))], u1)) rfl ?_
      refine x_ifN_eq 45 rfl rfl (by omega) (fun _ => ?_) (fun hn => absurd hn (by decide))
      refine run_ok 3 (c' := (51, [(0, .ref 48), (1, .int (nI p)), (2, .int (nI 0)), (3, .int (nI (cnt (fun k => decide (vnm (vo T 24) k = p ∧ (0 = 1 → vis (vo T 24) k = 2))) i))), (4, .int (nI i))], [.int ((nI (cnt (fun k => decide (vnm (vo T 24) k = p ∧ (0 = 1 → vis (vo T 24) k = 2))) i)) + (nI 1))], u1)) rfl ?_
      refine x_top (v' := nI ((cnt (fun k => decide (vnm (vo T 24) k = p ∧ (0 = 1 → vis (vo T 24) k = 2))) i) + 1)) (nI_add _ _) ?_
      refine run_ok 2 (c' := (55, [(0, .ref 48), (1, .int (nI p)), (2, .int (nI 0)), (3, .int (nI ((cnt (fun k => decide (vnm (vo T 24) k = p ∧ (0 = 1 → vis (vo T 24) k = 2))) i) + 1))), (4, .int (nI i + nI 1))], [], u1)) rfl ?_
      rw [nI_add i 1]
      refine run_ok 1 (c' := (9, [(0, .ref 48), (1, .int (nI p)), (2, .int (nI 0)), (3, .int (nI ((cnt (fun k => decide (vnm (vo T 24) k = p ∧ (0 = 1 → vis (vo T 24) k = 2))) i) + 1))), (4, .int (nI (i + 1)))], [], u1)) rfl ?_
      refine x_less [0, 1, 2, 3, 4] rfl ?_
      rw [show cnt (fun k => decide (vnm (vo T 24) k = p ∧ (0 = 1 → vis (vo T 24) k = 2))) (i + 1) = cnt (fun k => decide (vnm (vo T 24) k = p ∧ (0 = 1 → vis (vo T 24) k = 2))) i + 1 from cnt_s (decide_eq_true ⟨(nmv_eqp q1.2.1 hp).mp h27, by first | exact fun _ => h42 | exact fun z => absurd z (by decide)⟩)] at ih
      exact ih

set_option maxHeartbeats 2000000 in
theorem m_named_ok0 (S : ST) (T : TD) (n : Nat) (b : Nat → Nat) (n' : Nat) (b' : Nat → Nat) (hL : ML T n b n' b' S) (hto : tok T) (p : Nat) (hp : p < 8) : EX me_R_named 9 [.ref 48, .int (nI p), .int (nI 0)] S (fun r u => r = some (.int (nI (cnt (fun k => decide (vnm (vo T 24) k = p ∧ (0 = 1 → vis (vo T 24) k = 2))) (tnb T)))) ∧ QM S u) := by
  refine EX.of mok_R_named (Nat.le_of_ble_eq_true rfl) ?_
  refine run_ok 1 (c' := (1, [(0, .ref 48), (1, .int (nI p)), (2, .int (nI 0))], [.int (nI p)], S)) rfl ?_
  refine x_callS [.int (nI p)] rfl cs_R_isEight.1 lk_7_119 cs_R_isEight.2.1 rfl rfl (Nat.le_of_ble_eq_true rfl) (by decide) cs_R_isEight.2.2 (m_isEight S (nI p)) ?_
  rintro r u ⟨hr, hu⟩
  rw [hr, hu]
  clear hr hu r u
  refine x_ifB_eq 23 rfl rfl (fun hn => absurd hn (fun z => z (inr_t hp (by decide)))) (fun h4 => ?_)
  refine run_ok 1 (c' := (8, [(0, .ref 48), (1, .int (nI p)), (2, .int (nI 0))], [.int (nI 0)], S)) rfl ?_
  refine x_callS [.int (nI 0)] rfl cs_R_isTwo.1 lk_7_241 cs_R_isTwo.2.1 rfl rfl (Nat.le_of_ble_eq_true rfl) (by decide) cs_R_isTwo.2.2 (m_isTwo S (nI 0)) ?_
  rintro r u ⟨hr, hu⟩
  rw [hr, hu]
  clear hr hu r u
  refine x_ifB_eq 23 rfl rfl (fun hn => absurd hn (fun z => z (inr_t (by decide) (by decide)))) (fun h11 => ?_)
  refine run_ok 3 (c' := (17, [(0, .ref 48), (1, .int (nI p)), (2, .int (nI 0))], [.int (nI 0), .int (nI p), .ref 48], S)) rfl ?_
  refine x_callV [.int (nI p), .int (nI 0)] rfl cv_R_namedOf.1 lk_7_244 cv_R_namedOf.2.1 cv_R_namedOf.2.2.1 rfl cv_R_namedOf.2.2.2.1 rfl rfl (Nat.le_of_ble_eq_true rfl) (by decide) cv_R_namedOf.2.2.2.2 (m_namedOf0 S T n b n' b' (hL.stay QM.rf) hto p hp) ?_
  rintro r u1 ⟨hr, hqu1⟩
  rw [hr]
  clear hr r
  have hQu1 : QM S u1 := QM.rf.tr hqu1
  refine run_ok 1 (c' := (25, [(0, .ref 48), (1, .int (nI p)), (2, .int (nI 0))], [.int (nI (cnt (fun k => decide (vnm (vo T 24) k = p ∧ (0 = 1 → vis (vo T 24) k = 2))) (tnb T)))], u1)) rfl ?_
  exact x_ret (r := some (.int (nI (cnt (fun k => decide (vnm (vo T 24) k = p ∧ (0 = 1 → vis (vo T 24) k = 2))) (tnb T))))) rfl rfl trivial ⟨rfl, hQu1⟩ rfl

set_option maxHeartbeats 2000000 in
theorem m_namedOf1 (S : ST) (T : TD) (n : Nat) (b : Nat → Nat) (n' : Nat) (b' : Nat → Nat) (hL : ML T n b n' b' S) (hto : tok T) (p : Nat) (hp : p < 8) : EX me_R_namedOf 8 [.ref 48, .int (nI p), .int (nI 1)] S (fun r u => r = some (.int (nI (cnt (fun k => decide (vnm (vo T 24) k = p ∧ (1 = 1 → vis (vo T 24) k = 2))) (tnb T)))) ∧ QM S u) := by
  refine EX.of mok_R_namedOf (Nat.le_of_ble_eq_true rfl) ?_
  have n8 := hto.1
  refine run_ok 1 (c' := (1, [(0, .ref 48), (1, .int (nI p)), (2, .int (nI 1))], [.ref 48], S)) rfl ?_
  refine x_callV [] rfl cv_R_runsTold.1 lk_7_226 cv_R_runsTold.2.1 cv_R_runsTold.2.2.1 rfl cv_R_runsTold.2.2.2.1 rfl rfl (Nat.le_of_ble_eq_true rfl) (by decide) cv_R_runsTold.2.2.2.2 (m_runsTold S T n b n' b' (hL.stay QM.rf) hto) ?_
  rintro r u1 ⟨hr, hTu1, hMu1, hCu1, hhu1, hqu1⟩
  rw [hr]
  clear hr r
  have hQu1 : QM S u1 := QM.rf.tr hqu1
  obtain ⟨t1, t2, t3, t4, t5, t6, t7, t8, t9, t10, t11⟩ := id hTu1
  obtain ⟨m1, m2, m3, m4, m5, m6, m7⟩ := id hMu1
  refine run_ok 4 (c' := (9, [(0, .ref 48), (1, .int (nI p)), (2, .int (nI 1)), (3, .int (nI 0)), (4, .int (nI 0))], [], u1)) rfl ?_
  refine loop_up (P := fun i => BX me_R_namedOf 8 none (fun r u => r = some (.int (nI (cnt (fun k => decide (vnm (vo T 24) k = p ∧ (1 = 1 → vis (vo T 24) k = 2))) (tnb T)))) ∧ QM S u) (9, [(0, .ref 48), (1, .int (nI p)), (2, .int (nI 1)), (3, .int (nI (cnt (fun k => decide (vnm (vo T 24) k = p ∧ (1 = 1 → vis (vo T 24) k = 2))) i))), (4, .int (nI i))], [], u1)) (tnb T) ?_ ?_ 0 (by omega)
  · skip
    refine run_ok 3 (c' := (15, [(0, .ref 48), (1, .int (nI p)), (2, .int (nI 1)), (3, .int (nI (cnt (fun k => decide (vnm (vo T 24) k = p ∧ (1 = 1 → vis (vo T 24) k = 2))) (tnb T)))), (4, .int (nI (tnb T)))], [.int (u1.1 48 5), .int (nI (tnb T))], u1)) rfl ?_
    refine x_top (v' := nI (tnb T)) t9 ?_
    refine x_icmpN_ge 58 rfl rfl (by omega) (by omega) (fun h15 => ?_) (fun hn => absurd (Nat.le_refl _) hn)
    refine run_ok 1 (c' := (59, [(0, .ref 48), (1, .int (nI p)), (2, .int (nI 1)), (3, .int (nI (cnt (fun k => decide (vnm (vo T 24) k = p ∧ (1 = 1 → vis (vo T 24) k = 2))) (tnb T)))), (4, .int (nI (tnb T)))], [.int (nI (cnt (fun k => decide (vnm (vo T 24) k = p ∧ (1 = 1 → vis (vo T 24) k = 2))) (tnb T)))], u1)) rfl ?_
    exact x_ret (r := some (.int (nI (cnt (fun k => decide (vnm (vo T 24) k = p ∧ (1 = 1 → vis (vo T 24) k = 2))) (tnb T))))) rfl rfl trivial ⟨rfl, hQu1⟩ rfl
  · intro i hi ih
    have q1 := ((vk_vo hto 24 (by omega)).1.2.1 i (by omega))
    refine run_ok 3 (c' := (15, [(0, .ref 48), (1, .int (nI p)), (2, .int (nI 1)), (3, .int (nI (cnt (fun k => decide (vnm (vo T 24) k = p ∧ (1 = 1 → vis (vo T 24) k = 2))) i))), (4, .int (nI i))], [.int (u1.1 48 5), .int (nI i)], u1)) rfl ?_
    refine x_top (v' := nI (tnb T)) t9 ?_
    refine x_icmpN_ge 58 rfl rfl (by omega) (by omega) (fun hn => absurd hn (show ¬ tnb T ≤ i by omega)) (fun h15 => ?_)
    refine run_ok 4 (c' := (25, [(0, .ref 48), (1, .int (nI p)), (2, .int (nI 1)), (3, .int (nI (cnt (fun k => decide (vnm (vo T 24) k = p ∧ (1 = 1 → vis (vo T 24) k = 2))) i))), (4, .int (nI i))], [.int (nI i), .ref 65, .int (nI (cnt (fun k => decide (vnm (vo T 24) k = p ∧ (1 = 1 → vis (vo T 24) k = 2))) i))], u1)) rfl ?_
    refine x_iaN (nmv (vnm (vo T 24) i)) rfl rfl (by decide) (by omega) (m3 i (by omega)) ?_
    refine run_ok 1 (c' := (27, [(0, .ref 48), (1, .int (nI p)), (2, .int (nI 1)), (3, .int (nI (cnt (fun k => decide (vnm (vo T 24) k = p ∧ (1 = 1 → vis (vo T 24) k = 2))) i))), (4, .int (nI i))], [.int (nI p), .int (nmv (vnm (vo T 24) i)), .int (nI (cnt (fun k => decide (vnm (vo T 24) k = p ∧ (1 = 1 → vis (vo T 24) k = 2))) i))], u1)) rfl ?_
    refine x_icmp_ne 49 rfl rfl (fun h27 => ?_) (fun h27 => ?_)
    · refine run_ok 2 (c' := (51, [(0, .ref 48), (1, .int (nI p)), (2, .int (nI 1)), (3, .int (nI (cnt (fun k => decide (vnm (vo T 24) k = p ∧ (1 = 1 → vis (vo T 24) k = 2))) i))), (4, .int (nI i))], [.int ((nI (cnt (fun k => decide (vnm (vo T 24) k = p ∧ (1 = 1 → vis (vo T 24) k = 2))) i)) + (nI 0))], u1)) rfl ?_
      refine x_top (v' := nI ((cnt (fun k => decide (vnm (vo T 24) k = p ∧ (1 = 1 → vis (vo T 24) k = 2))) i) + 0)) (nI_add _ _) ?_
      refine run_ok 2 (c' := (55, [(0, .ref 48), (1, .int (nI p)), (2, .int (nI 1)), (3, .int (nI ((cnt (fun k => decide (vnm (vo T 24) k = p ∧ (1 = 1 → vis (vo T 24) k = 2))) i) + 0))), (4, .int (nI i + nI 1))], [], u1)) rfl ?_
      rw [nI_add i 1]
      refine run_ok 1 (c' := (9, [(0, .ref 48), (1, .int (nI p)), (2, .int (nI 1)), (3, .int (nI ((cnt (fun k => decide (vnm (vo T 24) k = p ∧ (1 = 1 → vis (vo T 24) k = 2))) i) + 0))), (4, .int (nI (i + 1)))], [], u1)) rfl ?_
      refine x_less [0, 1, 2, 3, 4] rfl ?_
      rw [show cnt (fun k => decide (vnm (vo T 24) k = p ∧ (1 = 1 → vis (vo T 24) k = 2))) (i + 1) = cnt (fun k => decide (vnm (vo T 24) k = p ∧ (1 = 1 → vis (vo T 24) k = 2))) i from cnt_z (decide_eq_false (fun z => by first | exact h42 (z.2 rfl) | exact h27 ((nmv_eqp q1.2.1 hp).mpr z.1)))] at ih
      rw [Nat.add_zero]
      exact ih
    · refine run_ok 1 (c' := (31, [(0, .ref 48), (1, .int (nI p)), (2, .int (nI 1)), (3, .int (nI (cnt (fun k => decide (vnm (vo T 24) k = p ∧ (1 = 1 → vis (vo T 24) k = 2))) i))), (4, .int (nI i))], [.int (nI 1), .int (nI (cnt (fun k => decide (vnm (vo T 24) k = p ∧ (1 = 1 → vis (vo T 24) k = 2))) i))], u1)) rfl ?_
      refine x_ifN_eq 45 rfl rfl (by omega) (fun hn => absurd hn (by decide)) (fun _ => ?_)
      refine run_ok 3 (c' := (40, [(0, .ref 48), (1, .int (nI p)), (2, .int (nI 1)), (3, .int (nI (cnt (fun k => decide (vnm (vo T 24) k = p ∧ (1 = 1 → vis (vo T 24) k = 2))) i))), (4, .int (nI i))], [.int (nI i), .ref 64, .int (nI (cnt (fun k => decide (vnm (vo T 24) k = p ∧ (1 = 1 → vis (vo T 24) k = 2))) i))], u1)) rfl ?_
      refine x_iaN (nI (vis (vo T 24) i)) rfl rfl (by decide) (by omega) (m2 i (by omega)) ?_
      refine run_ok 1 (c' := (42, [(0, .ref 48), (1, .int (nI p)), (2, .int (nI 1)), (3, .int (nI (cnt (fun k => decide (vnm (vo T 24) k = p ∧ (1 = 1 → vis (vo T 24) k = 2))) i))), (4, .int (nI i))], [.int (nI 2), .int (nI (vis (vo T 24) i)), .int (nI (cnt (fun k => decide (vnm (vo T 24) k = p ∧ (1 = 1 → vis (vo T 24) k = 2))) i))], u1)) rfl ?_
      refine x_icmpN_ne 49 rfl rfl (by omega) (by omega) (fun h42 => ?_) (fun h42 => ?_)
      · refine run_ok 2 (c' := (51, [(0, .ref 48), (1, .int (nI p)), (2, .int (nI 1)), (3, .int (nI (cnt (fun k => decide (vnm (vo T 24) k = p ∧ (1 = 1 → vis (vo T 24) k = 2))) i))), (4, .int (nI i))], [.int ((nI (cnt (fun k => decide (vnm (vo T 24) k = p ∧ (1 = 1 → vis (vo T 24) k = 2))) i)) + (nI 0))], u1)) rfl ?_
        refine x_top (v' := nI ((cnt (fun k => decide (vnm (vo T 24) k = p ∧ (1 = 1 → vis (vo T 24) k = 2))) i) + 0)) (nI_add _ _) ?_
        refine run_ok 2 (c' := (55, [(0, .ref 48), (1, .int (nI p)), (2, .int (nI 1)), (3, .int (nI ((cnt (fun k => decide (vnm (vo T 24) k = p ∧ (1 = 1 → vis (vo T 24) k = 2))) i) + 0))), (4, .int (nI i + nI 1))], [], u1)) rfl ?_
        rw [nI_add i 1]
        refine run_ok 1 (c' := (9, [(0, .ref 48), (1, .int (nI p)), (2, .int (nI 1)), (3, .int (nI ((cnt (fun k => decide (vnm (vo T 24) k = p ∧ (1 = 1 → vis (vo T 24) k = 2))) i) + 0))), (4, .int (nI (i + 1)))], [], u1)) rfl ?_
        refine x_less [0, 1, 2, 3, 4] rfl ?_
        rw [show cnt (fun k => decide (vnm (vo T 24) k = p ∧ (1 = 1 → vis (vo T 24) k = 2))) (i + 1) = cnt (fun k => decide (vnm (vo T 24) k = p ∧ (1 = 1 → vis (vo T 24) k = 2))) i from cnt_z (decide_eq_false (fun z => by first | exact h42 (z.2 rfl) | exact h27 ((nmv_eqp q1.2.1 hp).mpr z.1)))] at ih
        rw [Nat.add_zero]
        exact ih
      · refine run_ok 3 (c' := (51, [(0, .ref 48), (1, .int (nI p)), (2, .int (nI 1)), (3, .int (nI (cnt (fun k => decide (vnm (vo T 24) k = p ∧ (1 = 1 → vis (vo T 24) k = 2))) i))), (4, .int (nI i))], [.int ((nI (cnt (fun k => decide (vnm (vo T 24) k = p ∧ (1 = 1 → vis (vo T 24) k = 2))) i)) + (nI 1))], u1)) rfl ?_
        refine x_top (v' := nI ((cnt (fun k => decide (vnm (vo T 24) k = p ∧ (1 = 1 → vis (vo T 24) k = 2))) i) + 1)) (nI_add _ _) ?_
        refine run_ok 2 (c' := (55, [(0, .ref 48), (1, .int (nI p)), (2, .int (nI 1)), (3, .int (nI ((cnt (fun k => decide (vnm (vo T 24) k = p ∧ (1 = 1 → vis (vo T 24) k = 2))) i) + 1))), (4, .int (nI i + nI 1))], [], u1)) rfl ?_
        rw [nI_add i 1]
        refine run_ok 1 (c' := (9, [(0, .ref 48), (1, .int (nI p)), (2, .int (nI 1)), (3, .int (nI ((cnt (fun k => decide (vnm (vo T 24) k = p ∧ (1 = 1 → vis (vo T 24) k = 2))) i) + 1))), (4, .int (nI (i + 1)))], [], u1)) rfl ?_
        refine x_less [0, 1, 2, 3, 4] rfl ?_
        rw [show cnt (fun k => decide (vnm (vo T 24) k = p ∧ (1 = 1 → vis (vo T 24) k = 2))) (i + 1) = cnt (fun k => decide (vnm (vo T 24) k = p ∧ (1 = 1 → vis (vo T 24) k = 2))) i + 1 from cnt_s (decide_eq_true ⟨(nmv_eqp q1.2.1 hp).mp h27, by first | exact fun _ => h42 | exact fun z => absurd z (by decide)⟩)] at ih
        exact ih

set_option maxHeartbeats 2000000 in
theorem m_named_ok1 (S : ST) (T : TD) (n : Nat) (b : Nat → Nat) (n' : Nat) (b' : Nat → Nat) (hL : ML T n b n' b' S) (hto : tok T) (p : Nat) (hp : p < 8) : EX me_R_named 9 [.ref 48, .int (nI p), .int (nI 1)] S (fun r u => r = some (.int (nI (cnt (fun k => decide (vnm (vo T 24) k = p ∧ (1 = 1 → vis (vo T 24) k = 2))) (tnb T)))) ∧ QM S u) := by
  refine EX.of mok_R_named (Nat.le_of_ble_eq_true rfl) ?_
  refine run_ok 1 (c' := (1, [(0, .ref 48), (1, .int (nI p)), (2, .int (nI 1))], [.int (nI p)], S)) rfl ?_
  refine x_callS [.int (nI p)] rfl cs_R_isEight.1 lk_7_119 cs_R_isEight.2.1 rfl rfl (Nat.le_of_ble_eq_true rfl) (by decide) cs_R_isEight.2.2 (m_isEight S (nI p)) ?_
  rintro r u ⟨hr, hu⟩
  rw [hr, hu]
  clear hr hu r u
  refine x_ifB_eq 23 rfl rfl (fun hn => absurd hn (fun z => z (inr_t hp (by decide)))) (fun h4 => ?_)
  refine run_ok 1 (c' := (8, [(0, .ref 48), (1, .int (nI p)), (2, .int (nI 1))], [.int (nI 1)], S)) rfl ?_
  refine x_callS [.int (nI 1)] rfl cs_R_isTwo.1 lk_7_241 cs_R_isTwo.2.1 rfl rfl (Nat.le_of_ble_eq_true rfl) (by decide) cs_R_isTwo.2.2 (m_isTwo S (nI 1)) ?_
  rintro r u ⟨hr, hu⟩
  rw [hr, hu]
  clear hr hu r u
  refine x_ifB_eq 23 rfl rfl (fun hn => absurd hn (fun z => z (inr_t (by decide) (by decide)))) (fun h11 => ?_)
  refine run_ok 3 (c' := (17, [(0, .ref 48), (1, .int (nI p)), (2, .int (nI 1))], [.int (nI 1), .int (nI p), .ref 48], S)) rfl ?_
  refine x_callV [.int (nI p), .int (nI 1)] rfl cv_R_namedOf.1 lk_7_244 cv_R_namedOf.2.1 cv_R_namedOf.2.2.1 rfl cv_R_namedOf.2.2.2.1 rfl rfl (Nat.le_of_ble_eq_true rfl) (by decide) cv_R_namedOf.2.2.2.2 (m_namedOf1 S T n b n' b' (hL.stay QM.rf) hto p hp) ?_
  rintro r u1 ⟨hr, hqu1⟩
  rw [hr]
  clear hr r
  have hQu1 : QM S u1 := QM.rf.tr hqu1
  refine run_ok 1 (c' := (25, [(0, .ref 48), (1, .int (nI p)), (2, .int (nI 1))], [.int (nI (cnt (fun k => decide (vnm (vo T 24) k = p ∧ (1 = 1 → vis (vo T 24) k = 2))) (tnb T)))], u1)) rfl ?_
  exact x_ret (r := some (.int (nI (cnt (fun k => decide (vnm (vo T 24) k = p ∧ (1 = 1 → vis (vo T 24) k = 2))) (tnb T))))) rfl rfl trivial ⟨rfl, hQu1⟩ rfl

set_option maxHeartbeats 2000000 in
theorem m_named_bad (S : ST) (T : TD) (n : Nat) (b : Nat → Nat) (n' : Nat) (b' : Nat → Nat) (hL : ML T n b n' b' S) (hto : tok T) (x y : Int32) (hbad : ¬ ((0 ≤ x ∧ x < nI 8) ∧ (0 ≤ y ∧ y < nI 2))) : EX me_R_named 9 [.ref 48, .int x, .int y] S (fun r u => r = some (.int ((-2))) ∧ QM S u) := by
  refine EX.of mok_R_named (Nat.le_of_ble_eq_true rfl) ?_
  refine run_ok 1 (c' := (1, [(0, .ref 48), (1, .int x), (2, .int y)], [.int x], S)) rfl ?_
  refine x_callS [.int x] rfl cs_R_isEight.1 lk_7_119 cs_R_isEight.2.1 rfl rfl (Nat.le_of_ble_eq_true rfl) (by decide) cs_R_isEight.2.2 (m_isEight S (x)) ?_
  rintro r u ⟨hr, hu⟩
  rw [hr, hu]
  clear hr hu r u
  refine x_ifB_eq 23 rfl rfl (fun h4 => ?_) (fun h4 => ?_)
  · refine run_ok 1 (c' := (25, [(0, .ref 48), (1, .int x), (2, .int y)], [.int (-2)], S)) rfl ?_
    exact x_ret (r := some (.int (-2))) rfl rfl trivial ⟨rfl, QM.rf⟩ rfl
  · refine run_ok 1 (c' := (8, [(0, .ref 48), (1, .int x), (2, .int y)], [.int y], S)) rfl ?_
    refine x_callS [.int y] rfl cs_R_isTwo.1 lk_7_241 cs_R_isTwo.2.1 rfl rfl (Nat.le_of_ble_eq_true rfl) (by decide) cs_R_isTwo.2.2 (m_isTwo S (y)) ?_
    rintro r u ⟨hr, hu⟩
    rw [hr, hu]
    clear hr hu r u
    refine x_ifB_eq 23 rfl rfl (fun h11 => ?_) (fun h11 => ?_)
    · refine run_ok 1 (c' := (25, [(0, .ref 48), (1, .int x), (2, .int y)], [.int (-2)], S)) rfl ?_
      exact x_ret (r := some (.int (-2))) rfl rfl trivial ⟨rfl, QM.rf⟩ rfl
    · exact absurd ⟨h4, h11⟩ hbad

set_option maxHeartbeats 2000000 in
theorem m_firstOf0 (S : ST) (T : TD) (n : Nat) (b : Nat → Nat) (n' : Nat) (b' : Nat → Nat) (hL : ML T n b n' b' S) (hto : tok T)  : EX me_R_firstOf 8 [.ref 48, .int (nI 0)] S (fun r u => r = some (.int (fwv (vfw (vo T 24)))) ∧ QM S u) := by
  refine EX.of mok_R_firstOf (Nat.le_of_ble_eq_true rfl) ?_
  refine run_ok 1 (c' := (1, [(0, .ref 48), (1, .int (nI 0))], [.ref 48], S)) rfl ?_
  refine x_callV [] rfl cv_R_runsTold.1 lk_7_226 cv_R_runsTold.2.1 cv_R_runsTold.2.2.1 rfl cv_R_runsTold.2.2.2.1 rfl rfl (Nat.le_of_ble_eq_true rfl) (by decide) cv_R_runsTold.2.2.2.2 (m_runsTold S T n b n' b' (hL.stay QM.rf) hto) ?_
  rintro r u1 ⟨hr, hTu1, hMu1, hCu1, hhu1, hqu1⟩
  rw [hr]
  clear hr r
  have hQu1 : QM S u1 := QM.rf.tr hqu1
  obtain ⟨t1, t2, t3, t4, t5, t6, t7, t8, t9, t10, t11⟩ := id hTu1
  obtain ⟨m1, m2, m3, m4, m5, m6, m7⟩ := id hMu1
  refine run_ok 1 (c' := (5, [(0, .ref 48), (1, .int (nI 0))], [.int (nI 0)], u1)) rfl ?_
  refine x_ifN_ne 15 rfl rfl (by omega) (fun hn => absurd hn (by decide)) (fun _ => ?_)
  refine run_ok 2 (c' := (12, [(0, .ref 48), (1, .int (nI 0))], [.int (u1.1 48 24)], u1)) rfl ?_
  refine x_top (v' := fwv (vfw (vo T 24))) m6 ?_
  refine run_ok 1 (c' := (19, [(0, .ref 48), (1, .int (nI 0))], [.int (fwv (vfw (vo T 24)))], u1)) rfl ?_
  exact x_ret (r := some (.int (fwv (vfw (vo T 24))))) rfl rfl trivial ⟨rfl, hQu1⟩ rfl

set_option maxHeartbeats 2000000 in
theorem m_first_ok0 (S : ST) (T : TD) (n : Nat) (b : Nat → Nat) (n' : Nat) (b' : Nat → Nat) (hL : ML T n b n' b' S) (hto : tok T)  : EX me_R_first 9 [.ref 48, .int (nI 0)] S (fun r u => r = some (.int (fwv (vfw (vo T 24)))) ∧ QM S u) := by
  refine EX.of mok_R_first (Nat.le_of_ble_eq_true rfl) ?_
  refine run_ok 1 (c' := (1, [(0, .ref 48), (1, .int (nI 0))], [.int (nI 0)], S)) rfl ?_
  refine x_callS [.int (nI 0)] rfl cs_R_isTwo.1 lk_7_241 cs_R_isTwo.2.1 rfl rfl (Nat.le_of_ble_eq_true rfl) (by decide) cs_R_isTwo.2.2 (m_isTwo S (nI 0)) ?_
  rintro r u ⟨hr, hu⟩
  rw [hr, hu]
  clear hr hu r u
  refine x_ifB_eq 15 rfl rfl (fun hn => absurd hn (fun z => z (inr_t (by decide) (by decide)))) (fun h4 => ?_)
  refine run_ok 2 (c' := (9, [(0, .ref 48), (1, .int (nI 0))], [.int (nI 0), .ref 48], S)) rfl ?_
  refine x_callV [.int (nI 0)] rfl cv_R_firstOf.1 lk_7_247 cv_R_firstOf.2.1 cv_R_firstOf.2.2.1 rfl cv_R_firstOf.2.2.2.1 rfl rfl (Nat.le_of_ble_eq_true rfl) (by decide) cv_R_firstOf.2.2.2.2 (m_firstOf0 S T n b n' b' (hL.stay QM.rf) hto) ?_
  rintro r u1 ⟨hr, hqu1⟩
  rw [hr]
  clear hr r
  have hQu1 : QM S u1 := QM.rf.tr hqu1
  refine run_ok 1 (c' := (17, [(0, .ref 48), (1, .int (nI 0))], [.int (fwv (vfw (vo T 24)))], u1)) rfl ?_
  exact x_ret (r := some (.int (fwv (vfw (vo T 24))))) rfl rfl trivial ⟨rfl, hQu1⟩ rfl

set_option maxHeartbeats 2000000 in
theorem m_firstOf1 (S : ST) (T : TD) (n : Nat) (b : Nat → Nat) (n' : Nat) (b' : Nat → Nat) (hL : ML T n b n' b' S) (hto : tok T)  : EX me_R_firstOf 8 [.ref 48, .int (nI 1)] S (fun r u => r = some (.int (nmv (vfb (vo T 24)))) ∧ QM S u) := by
  refine EX.of mok_R_firstOf (Nat.le_of_ble_eq_true rfl) ?_
  refine run_ok 1 (c' := (1, [(0, .ref 48), (1, .int (nI 1))], [.ref 48], S)) rfl ?_
  refine x_callV [] rfl cv_R_runsTold.1 lk_7_226 cv_R_runsTold.2.1 cv_R_runsTold.2.2.1 rfl cv_R_runsTold.2.2.2.1 rfl rfl (Nat.le_of_ble_eq_true rfl) (by decide) cv_R_runsTold.2.2.2.2 (m_runsTold S T n b n' b' (hL.stay QM.rf) hto) ?_
  rintro r u1 ⟨hr, hTu1, hMu1, hCu1, hhu1, hqu1⟩
  rw [hr]
  clear hr r
  have hQu1 : QM S u1 := QM.rf.tr hqu1
  obtain ⟨t1, t2, t3, t4, t5, t6, t7, t8, t9, t10, t11⟩ := id hTu1
  obtain ⟨m1, m2, m3, m4, m5, m6, m7⟩ := id hMu1
  refine run_ok 1 (c' := (5, [(0, .ref 48), (1, .int (nI 1))], [.int (nI 1)], u1)) rfl ?_
  refine x_ifN_ne 15 rfl rfl (by omega) (fun _ => ?_) (fun hn => absurd hn (by decide))
  refine run_ok 2 (c' := (19, [(0, .ref 48), (1, .int (nI 1))], [.int (u1.1 48 25)], u1)) rfl ?_
  refine x_top (v' := nmv (vfb (vo T 24))) m7 ?_
  exact x_ret (r := some (.int (nmv (vfb (vo T 24))))) rfl rfl trivial ⟨rfl, hQu1⟩ rfl

set_option maxHeartbeats 2000000 in
theorem m_first_ok1 (S : ST) (T : TD) (n : Nat) (b : Nat → Nat) (n' : Nat) (b' : Nat → Nat) (hL : ML T n b n' b' S) (hto : tok T)  : EX me_R_first 9 [.ref 48, .int (nI 1)] S (fun r u => r = some (.int (nmv (vfb (vo T 24)))) ∧ QM S u) := by
  refine EX.of mok_R_first (Nat.le_of_ble_eq_true rfl) ?_
  refine run_ok 1 (c' := (1, [(0, .ref 48), (1, .int (nI 1))], [.int (nI 1)], S)) rfl ?_
  refine x_callS [.int (nI 1)] rfl cs_R_isTwo.1 lk_7_241 cs_R_isTwo.2.1 rfl rfl (Nat.le_of_ble_eq_true rfl) (by decide) cs_R_isTwo.2.2 (m_isTwo S (nI 1)) ?_
  rintro r u ⟨hr, hu⟩
  rw [hr, hu]
  clear hr hu r u
  refine x_ifB_eq 15 rfl rfl (fun hn => absurd hn (fun z => z (inr_t (by decide) (by decide)))) (fun h4 => ?_)
  refine run_ok 2 (c' := (9, [(0, .ref 48), (1, .int (nI 1))], [.int (nI 1), .ref 48], S)) rfl ?_
  refine x_callV [.int (nI 1)] rfl cv_R_firstOf.1 lk_7_247 cv_R_firstOf.2.1 cv_R_firstOf.2.2.1 rfl cv_R_firstOf.2.2.2.1 rfl rfl (Nat.le_of_ble_eq_true rfl) (by decide) cv_R_firstOf.2.2.2.2 (m_firstOf1 S T n b n' b' (hL.stay QM.rf) hto) ?_
  rintro r u1 ⟨hr, hqu1⟩
  rw [hr]
  clear hr r
  have hQu1 : QM S u1 := QM.rf.tr hqu1
  refine run_ok 1 (c' := (17, [(0, .ref 48), (1, .int (nI 1))], [.int (nmv (vfb (vo T 24)))], u1)) rfl ?_
  exact x_ret (r := some (.int (nmv (vfb (vo T 24))))) rfl rfl trivial ⟨rfl, hQu1⟩ rfl

set_option maxHeartbeats 2000000 in
theorem m_first_bad (S : ST) (T : TD) (n : Nat) (b : Nat → Nat) (n' : Nat) (b' : Nat → Nat) (hL : ML T n b n' b' S) (hto : tok T) (x : Int32) (hbad : ¬ (0 ≤ x ∧ x < nI 2)) : EX me_R_first 9 [.ref 48, .int x] S (fun r u => r = some (.int ((-2))) ∧ QM S u) := by
  refine EX.of mok_R_first (Nat.le_of_ble_eq_true rfl) ?_
  refine run_ok 1 (c' := (1, [(0, .ref 48), (1, .int x)], [.int x], S)) rfl ?_
  refine x_callS [.int x] rfl cs_R_isTwo.1 lk_7_241 cs_R_isTwo.2.1 rfl rfl (Nat.le_of_ble_eq_true rfl) (by decide) cs_R_isTwo.2.2 (m_isTwo S (x)) ?_
  rintro r u ⟨hr, hu⟩
  rw [hr, hu]
  clear hr hu r u
  refine x_ifB_eq 15 rfl rfl (fun h4 => ?_) (fun h4 => ?_)
  · refine run_ok 1 (c' := (17, [(0, .ref 48), (1, .int x)], [.int (-2)], S)) rfl ?_
    exact x_ret (r := some (.int (-2))) rfl rfl trivial ⟨rfl, QM.rf⟩ rfl
  · exact absurd h4 hbad

set_option maxHeartbeats 2000000 in
theorem m_longNow (S : ST) (T : TD) (hC : RC T 24 S) (hto : tok T) (k : Nat) (hk : k < tnb T)  : EX me_R_longNow 0 [.ref 48, .int (nI k)] S (fun r u => r = some (.int (nI (lsn T 24 k))) ∧ u = S) := by
  refine EX.of mok_R_longNow (Nat.le_of_ble_eq_true rfl) ?_
  have n8 := hto.1
  refine run_ok 4 (c' := (4, [(0, .ref 48), (1, .int (nI k)), (2, .int (nI 0)), (3, .int (nI 0))], [], S)) rfl ?_
  refine loop_up (P := fun i => BX me_R_longNow 0 none (fun r u => r = some (.int (nI (lsn T 24 k))) ∧ u = S) (4, [(0, .ref 48), (1, .int (nI k)), (2, .int (nI (lsn T i k))), (3, .int (nI i))], [], S)) (24) ?_ ?_ 0 (by omega)
  · skip
    refine run_ok 2 (c' := (7, [(0, .ref 48), (1, .int (nI k)), (2, .int (nI (lsn T 24 k))), (3, .int (nI 24))], [.int (nI 24), .int (nI 24)], S)) rfl ?_
    refine x_icmpN_ge 39 rfl rfl (by omega) (by omega) (fun h7 => ?_) (fun hn => absurd (Nat.le_refl _) hn)
    refine run_ok 1 (c' := (40, [(0, .ref 48), (1, .int (nI k)), (2, .int (nI (lsn T 24 k))), (3, .int (nI 24))], [.int (nI (lsn T 24 k))], S)) rfl ?_
    exact x_ret (r := some (.int (nI (lsn T 24 k)))) rfl rfl trivial ⟨rfl, rfl⟩ rfl
  · intro i hi ih
    have q1 := ((vk_vo hto (i + 1) (by omega)).1.2.1 k (by omega)).1
    refine run_ok 2 (c' := (7, [(0, .ref 48), (1, .int (nI k)), (2, .int (nI (lsn T i k))), (3, .int (nI i))], [.int (nI 24), .int (nI i)], S)) rfl ?_
    refine x_icmpN_ge 39 rfl rfl (by omega) (by omega) (fun hn => absurd hn (show ¬ 24 ≤ i by omega)) (fun h7 => ?_)
    refine run_ok 6 (c' := (19, [(0, .ref 48), (1, .int (nI k)), (2, .int (nI (lsn T i k))), (3, .int (nI i))], [.int ((nI 8) * (nI i)), .ref 68, .int (nI (lsn T i k))], S)) rfl ?_
    refine x_top (v' := nI (8 * i)) (pk_mul _ _) ?_
    refine run_ok 2 (c' := (21, [(0, .ref 48), (1, .int (nI k)), (2, .int (nI (lsn T i k))), (3, .int (nI i))], [.int ((nI (8 * i)) + (nI k)), .ref 68, .int (nI (lsn T i k))], S)) rfl ?_
    refine x_top (v' := nI ((8 * i) + k)) (nI_add _ _) ?_
    refine x_iaN (nI (vis (vo T (i + 1)) k)) rfl rfl (by decide) (by omega) (hC.1 i hi k hk).1 ?_
    refine run_ok 1 (c' := (23, [(0, .ref 48), (1, .int (nI k)), (2, .int (nI (lsn T i k))), (3, .int (nI i))], [.int (nI 1), .int (nI (vis (vo T (i + 1)) k)), .int (nI (lsn T i k))], S)) rfl ?_
    refine x_icmpN_ne 30 rfl rfl (by omega) (by omega) (fun h23 => ?_) (fun h23 => ?_)
    · refine run_ok 2 (c' := (32, [(0, .ref 48), (1, .int (nI k)), (2, .int (nI (lsn T i k))), (3, .int (nI i))], [.int ((nI (lsn T i k)) + (nI 0))], S)) rfl ?_
      refine x_top (v' := nI ((lsn T i k) + 0)) (nI_add _ _) ?_
      refine run_ok 2 (c' := (36, [(0, .ref 48), (1, .int (nI k)), (2, .int (nI ((lsn T i k) + 0))), (3, .int (nI i + nI 1))], [], S)) rfl ?_
      rw [nI_add i 1]
      refine run_ok 1 (c' := (4, [(0, .ref 48), (1, .int (nI k)), (2, .int (nI ((lsn T i k) + 0))), (3, .int (nI (i + 1)))], [], S)) rfl ?_
      refine x_less [0, 1, 2, 3] rfl ?_
      rw [show lsn T (i + 1) k = lsn T i k + 0 from congrArg (lsn T i k + ·) (if_neg h23)] at ih
      exact ih
    · refine run_ok 3 (c' := (32, [(0, .ref 48), (1, .int (nI k)), (2, .int (nI (lsn T i k))), (3, .int (nI i))], [.int ((nI (lsn T i k)) + (nI 1))], S)) rfl ?_
      refine x_top (v' := nI ((lsn T i k) + 1)) (nI_add _ _) ?_
      refine run_ok 2 (c' := (36, [(0, .ref 48), (1, .int (nI k)), (2, .int (nI ((lsn T i k) + 1))), (3, .int (nI i + nI 1))], [], S)) rfl ?_
      rw [nI_add i 1]
      refine run_ok 1 (c' := (4, [(0, .ref 48), (1, .int (nI k)), (2, .int (nI ((lsn T i k) + 1))), (3, .int (nI (i + 1)))], [], S)) rfl ?_
      refine x_less [0, 1, 2, 3] rfl ?_
      rw [show lsn T (i + 1) k = lsn T i k + 1 from congrArg (lsn T i k + ·) (if_pos h23)] at ih
      exact ih

set_option maxHeartbeats 2000000 in
theorem m_longOf (S : ST) (T : TD) (n : Nat) (b : Nat → Nat) (n' : Nat) (b' : Nat → Nat) (hL : ML T n b n' b' S) (hto : tok T) (k : Nat) (hk : k < tnb T) : EX me_R_longOf 8 [.ref 48, .int (nI k)] S (fun r u => r = some (.int (nI (lsn T 24 k))) ∧ QM S u) := by
  refine EX.of mok_R_longOf (Nat.le_of_ble_eq_true rfl) ?_
  refine run_ok 1 (c' := (1, [(0, .ref 48), (1, .int (nI k))], [.ref 48], S)) rfl ?_
  refine x_callV [] rfl cv_R_runsTold.1 lk_7_226 cv_R_runsTold.2.1 cv_R_runsTold.2.2.1 rfl cv_R_runsTold.2.2.2.1 rfl rfl (Nat.le_of_ble_eq_true rfl) (by decide) cv_R_runsTold.2.2.2.2 (m_runsTold S T n b n' b' (hL.stay QM.rf) hto) ?_
  rintro r u1 ⟨hr, hTu1, hMu1, hCu1, hhu1, hqu1⟩
  rw [hr]
  clear hr r
  have hQu1 : QM S u1 := QM.rf.tr hqu1
  obtain ⟨t1, t2, t3, t4, t5, t6, t7, t8, t9, t10, t11⟩ := id hTu1
  obtain ⟨m1, m2, m3, m4, m5, m6, m7⟩ := id hMu1
  refine run_ok 2 (c' := (6, [(0, .ref 48), (1, .int (nI k))], [.int (nI k), .ref 48], u1)) rfl ?_
  refine x_callV [.int (nI k)] rfl cv_R_longNow.1 lk_7_260 cv_R_longNow.2.1 cv_R_longNow.2.2.1 rfl cv_R_longNow.2.2.2.1 rfl rfl (Nat.le_of_ble_eq_true rfl) (by decide) cv_R_longNow.2.2.2.2 (m_longNow u1 T hCu1 hto k hk) ?_
  rintro r z ⟨hr, hu⟩
  rw [hr, hu]
  clear hr hu r z
  exact x_ret (r := some (.int (nI (lsn T 24 k)))) rfl rfl trivial ⟨rfl, hQu1⟩ rfl

set_option maxHeartbeats 2000000 in
theorem m_longs_ok (S : ST) (T : TD) (n : Nat) (b : Nat → Nat) (n' : Nat) (b' : Nat → Nat) (hL : ML T n b n' b' S) (hto : tok T) (k : Nat) (hk : k < tnb T) : EX me_R_longs 9 [.ref 48, .int (nI k)] S (fun r u => r = some (.int (nI (lsn T 24 k))) ∧ QM S u) := by
  refine EX.of mok_R_longs (Nat.le_of_ble_eq_true rfl) ?_
  have n8 := hto.1
  refine run_ok 2 (c' := (2, [(0, .ref 48), (1, .int (nI k))], [.int (nI k), .ref 48], S)) rfl ?_
  refine x_callV [.int (nI k)] rfl cv_R_isBoat.1 lk_7_163 cv_R_isBoat.2.1 cv_R_isBoat.2.2.1 rfl cv_R_isBoat.2.2.2.1 rfl rfl (Nat.le_of_ble_eq_true rfl) (by decide) cv_R_isBoat.2.2.2.2 (m_isBoat S T n b n' b' (hL.stay QM.rf) hto (nI k)) ?_
  rintro r u1 ⟨hr, hRu1, hqu1⟩
  rw [hr]
  clear hr r
  have hQu1 : QM S u1 := QM.rf.tr hqu1
  refine x_ifB_eq 16 rfl rfl (fun hn => absurd hn (fun z => z (inr_t hk (by omega)))) (fun h5 => ?_)
  refine run_ok 2 (c' := (10, [(0, .ref 48), (1, .int (nI k))], [.int (nI k), .ref 48], u1)) rfl ?_
  refine x_callV [.int (nI k)] rfl cv_R_longOf.1 lk_7_263 cv_R_longOf.2.1 cv_R_longOf.2.2.1 rfl cv_R_longOf.2.2.2.1 rfl rfl (Nat.le_of_ble_eq_true rfl) (by decide) cv_R_longOf.2.2.2.2 (m_longOf u1 T n b n' b' (hL.stay hQu1) hto k hk) ?_
  rintro r u2 ⟨hr, hqu2⟩
  rw [hr]
  clear hr r
  have hQu2 : QM S u2 := hQu1.tr hqu2
  refine run_ok 1 (c' := (18, [(0, .ref 48), (1, .int (nI k))], [.int (nI (lsn T 24 k))], u2)) rfl ?_
  exact x_ret (r := some (.int (nI (lsn T 24 k)))) rfl rfl trivial ⟨rfl, hQu2⟩ rfl

set_option maxHeartbeats 2000000 in
theorem m_longs_bad (S : ST) (T : TD) (n : Nat) (b : Nat → Nat) (n' : Nat) (b' : Nat → Nat) (hL : ML T n b n' b' S) (hto : tok T) (x : Int32) (hbad : ¬ (0 ≤ x ∧ x < nI (tnb T))) : EX me_R_longs 9 [.ref 48, .int x] S (fun r u => r = some (.int ((-2))) ∧ QM S u) := by
  refine EX.of mok_R_longs (Nat.le_of_ble_eq_true rfl) ?_
  refine run_ok 2 (c' := (2, [(0, .ref 48), (1, .int x)], [.int x, .ref 48], S)) rfl ?_
  refine x_callV [.int x] rfl cv_R_isBoat.1 lk_7_163 cv_R_isBoat.2.1 cv_R_isBoat.2.2.1 rfl cv_R_isBoat.2.2.2.1 rfl rfl (Nat.le_of_ble_eq_true rfl) (by decide) cv_R_isBoat.2.2.2.2 (m_isBoat S T n b n' b' (hL.stay QM.rf) hto (x)) ?_
  rintro r u1 ⟨hr, hRu1, hqu1⟩
  rw [hr]
  clear hr r
  have hQu1 : QM S u1 := QM.rf.tr hqu1
  refine x_ifB_eq 16 rfl rfl (fun h5 => ?_) (fun h5 => ?_)
  · refine run_ok 1 (c' := (18, [(0, .ref 48), (1, .int x)], [.int (-2)], u1)) rfl ?_
    exact x_ret (r := some (.int (-2))) rfl rfl trivial ⟨rfl, hQu1⟩ rfl
  · exact absurd h5 hbad


/-! the model: digests -/
theorem BT.of {T : TD} {n : Nat} {b : Nat → Nat} {n' : Nat} {b' : Nat → Nat} {S u : ST} (hL : ML T n b n' b' S) (hR : RD n b n' b' u) : BT T u := by
  obtain ⟨h1, h2, h3, h4, h5, h6⟩ := hL
  obtain ⟨r1, r2, r3, r4⟩ := hR
  rw [← h4] at r3 r4
  exact ⟨r4.1.cg (fun k hk => (h5 k hk).1), r4.2.1.cg (fun k hk => (h5 k hk).2.1), r4.2.2.1.cg (fun k hk => (h5 k hk).2.2.1), r4.2.2.2.cg (fun k hk => (h5 k hk).2.2.2), r3⟩
theorem m_bof0 (S : ST) (T : TD) (hM : BT T S) (hto : tok T) (k : Nat) (hk : k < tnb T) : EX me_R_boatOf 0 [.ref 48, .int (nI k), .int (nI 0)] S (fun r u => r = some (.int (nI (tso T k))) ∧ u = S) := by
  refine EX.of mok_R_boatOf (Nat.le_of_ble_eq_true rfl) ?_
  have n8 := hto.1
  obtain ⟨r2, r3, r4, r5, r6⟩ := id hM
  refine run_ok 1 (c' := (1, [(0, .ref 48), (1, .int (nI k)), (2, .int (nI 0))], [.int (nI 0)], S)) rfl ?_
  refine x_ifN_ne 13 rfl rfl (by omega) (fun hn => absurd hn (by decide)) (fun _ => ?_)
  refine run_ok 3 (c' := (9, [(0, .ref 48), (1, .int (nI k)), (2, .int (nI 0))], [.int (nI k), .ref 53], S)) rfl ?_
  refine x_iaN (nI (tso T k)) rfl rfl (by decide) (by omega) (r2 k (by omega)) ?_
  refine run_ok 1 (c' := (47, [(0, .ref 48), (1, .int (nI k)), (2, .int (nI 0))], [.int (nI (tso T k))], S)) rfl ?_
  exact x_ret (r := some (.int (nI (tso T k)))) rfl rfl trivial ⟨rfl, rfl⟩ rfl

theorem m_bof1 (S : ST) (T : TD) (hM : BT T S) (hto : tok T) (k : Nat) (hk : k < tnb T) : EX me_R_boatOf 0 [.ref 48, .int (nI k), .int (nI 1)] S (fun r u => r = some (.int (nI (tbu T k))) ∧ u = S) := by
  refine EX.of mok_R_boatOf (Nat.le_of_ble_eq_true rfl) ?_
  have n8 := hto.1
  obtain ⟨r2, r3, r4, r5, r6⟩ := id hM
  refine run_ok 1 (c' := (1, [(0, .ref 48), (1, .int (nI k)), (2, .int (nI 1))], [.int (nI 1)], S)) rfl ?_
  refine x_ifN_ne 13 rfl rfl (by omega) (fun _ => ?_) (fun hn => absurd hn (by decide))
  refine run_ok 2 (c' := (15, [(0, .ref 48), (1, .int (nI k)), (2, .int (nI 1))], [.int (nI 1), .int (nI 1)], S)) rfl ?_
  refine x_icmpN_ne 27 rfl rfl (by omega) (by omega) (fun hn => absurd hn (by decide)) (fun _ => ?_)
  refine run_ok 3 (c' := (23, [(0, .ref 48), (1, .int (nI k)), (2, .int (nI 1))], [.int (nI k), .ref 54], S)) rfl ?_
  refine x_iaN (nI (tbu T k)) rfl rfl (by decide) (by omega) (r3 k (by omega)) ?_
  refine run_ok 1 (c' := (47, [(0, .ref 48), (1, .int (nI k)), (2, .int (nI 1))], [.int (nI (tbu T k))], S)) rfl ?_
  exact x_ret (r := some (.int (nI (tbu T k)))) rfl rfl trivial ⟨rfl, rfl⟩ rfl

theorem m_bof2 (S : ST) (T : TD) (hM : BT T S) (hto : tok T) (k : Nat) (hk : k < tnb T) : EX me_R_boatOf 0 [.ref 48, .int (nI k), .int (nI 2)] S (fun r u => r = some (.int (nI (tla T k))) ∧ u = S) := by
  refine EX.of mok_R_boatOf (Nat.le_of_ble_eq_true rfl) ?_
  have n8 := hto.1
  obtain ⟨r2, r3, r4, r5, r6⟩ := id hM
  refine run_ok 1 (c' := (1, [(0, .ref 48), (1, .int (nI k)), (2, .int (nI 2))], [.int (nI 2)], S)) rfl ?_
  refine x_ifN_ne 13 rfl rfl (by omega) (fun _ => ?_) (fun hn => absurd hn (by decide))
  refine run_ok 2 (c' := (15, [(0, .ref 48), (1, .int (nI k)), (2, .int (nI 2))], [.int (nI 1), .int (nI 2)], S)) rfl ?_
  refine x_icmpN_ne 27 rfl rfl (by omega) (by omega) (fun _ => ?_) (fun hn => absurd hn (by decide))
  refine run_ok 2 (c' := (29, [(0, .ref 48), (1, .int (nI k)), (2, .int (nI 2))], [.int (nI 2), .int (nI 2)], S)) rfl ?_
  refine x_icmpN_ne 41 rfl rfl (by omega) (by omega) (fun hn => absurd hn (by decide)) (fun _ => ?_)
  refine run_ok 3 (c' := (37, [(0, .ref 48), (1, .int (nI k)), (2, .int (nI 2))], [.int (nI k), .ref 55], S)) rfl ?_
  refine x_iaN (nI (tla T k)) rfl rfl (by decide) (by omega) (r4 k (by omega)) ?_
  refine run_ok 1 (c' := (47, [(0, .ref 48), (1, .int (nI k)), (2, .int (nI 2))], [.int (nI (tla T k))], S)) rfl ?_
  exact x_ret (r := some (.int (nI (tla T k)))) rfl rfl trivial ⟨rfl, rfl⟩ rfl

theorem m_bof3 (S : ST) (T : TD) (hM : BT T S) (hto : tok T) (k : Nat) (hk : k < tnb T) : EX me_R_boatOf 0 [.ref 48, .int (nI k), .int (nI 3)] S (fun r u => r = some (.int (nI (tst T k))) ∧ u = S) := by
  refine EX.of mok_R_boatOf (Nat.le_of_ble_eq_true rfl) ?_
  have n8 := hto.1
  obtain ⟨r2, r3, r4, r5, r6⟩ := id hM
  refine run_ok 1 (c' := (1, [(0, .ref 48), (1, .int (nI k)), (2, .int (nI 3))], [.int (nI 3)], S)) rfl ?_
  refine x_ifN_ne 13 rfl rfl (by omega) (fun _ => ?_) (fun hn => absurd hn (by decide))
  refine run_ok 2 (c' := (15, [(0, .ref 48), (1, .int (nI k)), (2, .int (nI 3))], [.int (nI 1), .int (nI 3)], S)) rfl ?_
  refine x_icmpN_ne 27 rfl rfl (by omega) (by omega) (fun _ => ?_) (fun hn => absurd hn (by decide))
  refine run_ok 2 (c' := (29, [(0, .ref 48), (1, .int (nI k)), (2, .int (nI 3))], [.int (nI 2), .int (nI 3)], S)) rfl ?_
  refine x_icmpN_ne 41 rfl rfl (by omega) (by omega) (fun _ => ?_) (fun hn => absurd hn (by decide))
  refine run_ok 3 (c' := (46, [(0, .ref 48), (1, .int (nI k)), (2, .int (nI 3))], [.int (nI k), .ref 56], S)) rfl ?_
  refine x_iaN (nI (tst T k)) rfl rfl (by decide) (by omega) (r5 k (by omega)) ?_
  exact x_ret (r := some (.int (nI (tst T k)))) rfl rfl trivial ⟨rfl, rfl⟩ rfl

set_option maxHeartbeats 2000000 in
theorem m_weekDigest (S : ST) (T : TD) (n : Nat) (b : Nat → Nat) (n' : Nat) (b' : Nat → Nat) (hL : ML T n b n' b' S) (hto : tok T) (h : Int64) (w k : Nat) (hw : w < 24) (hk : k < tnb T) : EX me_R_weekDigest 9 [.ref 48, .long h, .int (nI w), .int (nI k)] S (fun r u => r = some (.long (dgw T h k w)) ∧ QM S u) := by
  refine EX.of mok_R_weekDigest (Nat.le_of_ble_eq_true rfl) ?_
  refine run_ok 6 (c' := (9, [(0, .ref 48), (1, .long h), (3, .int (nI w)), (4, .int (nI k)), (5, .long h), (7, .int (nI 0))], [.int (nI 4), .int (nI 0)], S)) rfl ?_
  refine x_icmpN_ge 37 rfl rfl (by omega) (by omega) (fun hn => absurd hn (by decide)) (fun _ => ?_)
  refine run_ok 7 (c' := (24, [(0, .ref 48), (1, .long h), (3, .int (nI w)), (4, .int (nI k)), (5, .long h), (7, .int (nI 0))], [.int (nI 0), .int (nI k), .int (nI w), .ref 48, .long (31 * h)], S)) rfl ?_
  refine x_callV [.int (nI w), .int (nI k), .int (nI 0)] rfl cv_R_atOf.1 lk_7_232 cv_R_atOf.2.1 cv_R_atOf.2.2.1 rfl cv_R_atOf.2.2.2.1 rfl rfl (Nat.le_of_ble_eq_true rfl) (by decide) cv_R_atOf.2.2.2.2 (m_atOf0 S T n b n' b' (hL.stay QM.rf) hto w k (by omega) (by omega)) ?_
  rintro r u1 ⟨hr, hqu1⟩
  rw [hr]
  clear hr r
  have hQu1 : QM S u1 := QM.rf.tr hqu1
  refine run_ok 2 (c' := (29, [(0, .ref 48), (1, .long h), (3, .int (nI w)), (4, .int (nI k)), (5, .long h), (7, .int (nI 0))], [.long ((31 * h) + ((nI (vis (vo T (w + 1)) k)).toInt64))], u1)) rfl ?_
  obtain ⟨d1, e1⟩ : ∃ y : Int64, y = dg h (nI (vis (vo T (w + 1)) k)) := ⟨_, rfl⟩
  refine x_topl (v' := d1) e1.symm ?_
  refine run_ok 5 (c' := (9, [(0, .ref 48), (1, .long h), (3, .int (nI w)), (4, .int (nI k)), (5, .long d1), (7, .int (nI 1))], [.int (nI 4), .int (nI 1)], u1)) rfl ?_
  refine x_icmpN_ge 37 rfl rfl (by omega) (by omega) (fun hn => absurd hn (by decide)) (fun _ => ?_)
  refine run_ok 7 (c' := (24, [(0, .ref 48), (1, .long h), (3, .int (nI w)), (4, .int (nI k)), (5, .long d1), (7, .int (nI 1))], [.int (nI 1), .int (nI k), .int (nI w), .ref 48, .long (31 * d1)], u1)) rfl ?_
  refine x_callV [.int (nI w), .int (nI k), .int (nI 1)] rfl cv_R_atOf.1 lk_7_232 cv_R_atOf.2.1 cv_R_atOf.2.2.1 rfl cv_R_atOf.2.2.2.1 rfl rfl (Nat.le_of_ble_eq_true rfl) (by decide) cv_R_atOf.2.2.2.2 (m_atOf1 u1 T n b n' b' (hL.stay hQu1) hto w k (by omega) (by omega)) ?_
  rintro r u2 ⟨hr, hqu2⟩
  rw [hr]
  clear hr r
  have hQu2 : QM S u2 := hQu1.tr hqu2
  refine run_ok 2 (c' := (29, [(0, .ref 48), (1, .long h), (3, .int (nI w)), (4, .int (nI k)), (5, .long d1), (7, .int (nI 1))], [.long ((31 * d1) + ((nmv (vnm (vo T (w + 1)) k)).toInt64))], u2)) rfl ?_
  obtain ⟨d2, e2⟩ : ∃ y : Int64, y = dg d1 (nmv (vnm (vo T (w + 1)) k)) := ⟨_, rfl⟩
  refine x_topl (v' := d2) e2.symm ?_
  refine run_ok 5 (c' := (9, [(0, .ref 48), (1, .long h), (3, .int (nI w)), (4, .int (nI k)), (5, .long d2), (7, .int (nI 2))], [.int (nI 4), .int (nI 2)], u2)) rfl ?_
  refine x_icmpN_ge 37 rfl rfl (by omega) (by omega) (fun hn => absurd hn (by decide)) (fun _ => ?_)
  refine run_ok 7 (c' := (24, [(0, .ref 48), (1, .long h), (3, .int (nI w)), (4, .int (nI k)), (5, .long d2), (7, .int (nI 2))], [.int (nI 2), .int (nI k), .int (nI w), .ref 48, .long (31 * d2)], u2)) rfl ?_
  refine x_callV [.int (nI w), .int (nI k), .int (nI 2)] rfl cv_R_atOf.1 lk_7_232 cv_R_atOf.2.1 cv_R_atOf.2.2.1 rfl cv_R_atOf.2.2.2.1 rfl rfl (Nat.le_of_ble_eq_true rfl) (by decide) cv_R_atOf.2.2.2.2 (m_atOf2 u2 T n b n' b' (hL.stay hQu2) hto w k (by omega) (by omega)) ?_
  rintro r u3 ⟨hr, hqu3⟩
  rw [hr]
  clear hr r
  have hQu3 : QM S u3 := hQu2.tr hqu3
  refine run_ok 2 (c' := (29, [(0, .ref 48), (1, .long h), (3, .int (nI w)), (4, .int (nI k)), (5, .long d2), (7, .int (nI 2))], [.long ((31 * d2) + ((nI (vgr (vo T (w + 1)) k)).toInt64))], u3)) rfl ?_
  obtain ⟨d3, e3⟩ : ∃ y : Int64, y = dg d2 (nI (vgr (vo T (w + 1)) k)) := ⟨_, rfl⟩
  refine x_topl (v' := d3) e3.symm ?_
  refine run_ok 5 (c' := (9, [(0, .ref 48), (1, .long h), (3, .int (nI w)), (4, .int (nI k)), (5, .long d3), (7, .int (nI 3))], [.int (nI 4), .int (nI 3)], u3)) rfl ?_
  refine x_icmpN_ge 37 rfl rfl (by omega) (by omega) (fun hn => absurd hn (by decide)) (fun _ => ?_)
  refine run_ok 7 (c' := (24, [(0, .ref 48), (1, .long h), (3, .int (nI w)), (4, .int (nI k)), (5, .long d3), (7, .int (nI 3))], [.int (nI 3), .int (nI k), .int (nI w), .ref 48, .long (31 * d3)], u3)) rfl ?_
  refine x_callV [.int (nI w), .int (nI k), .int (nI 3)] rfl cv_R_atOf.1 lk_7_232 cv_R_atOf.2.1 cv_R_atOf.2.2.1 rfl cv_R_atOf.2.2.2.1 rfl rfl (Nat.le_of_ble_eq_true rfl) (by decide) cv_R_atOf.2.2.2.2 (m_atOf3 u3 T n b n' b' (hL.stay hQu3) hto w k (by omega) (by omega)) ?_
  rintro r u4 ⟨hr, hqu4⟩
  rw [hr]
  clear hr r
  have hQu4 : QM S u4 := hQu3.tr hqu4
  refine run_ok 2 (c' := (29, [(0, .ref 48), (1, .long h), (3, .int (nI w)), (4, .int (nI k)), (5, .long d3), (7, .int (nI 3))], [.long ((31 * d3) + ((nI (vho (vo T (w + 1)) k)).toInt64))], u4)) rfl ?_
  obtain ⟨d4, e4⟩ : ∃ y : Int64, y = dg d3 (nI (vho (vo T (w + 1)) k)) := ⟨_, rfl⟩
  refine x_topl (v' := d4) e4.symm ?_
  refine run_ok 5 (c' := (9, [(0, .ref 48), (1, .long h), (3, .int (nI w)), (4, .int (nI k)), (5, .long d4), (7, .int (nI 4))], [.int (nI 4), .int (nI 4)], u4)) rfl ?_
  refine x_icmpN_ge 37 rfl rfl (by omega) (by omega) (fun _ => ?_) (fun hn => absurd hn (by decide))
  refine run_ok 1 (c' := (39, [(0, .ref 48), (1, .long h), (3, .int (nI w)), (4, .int (nI k)), (5, .long d4), (7, .int (nI 4))], [.long d4], u4)) rfl ?_
  exact x_ret (r := some (.long d4)) rfl rfl trivial ⟨by subst e4 e3 e2 e1; rfl, hQu4⟩ rfl

set_option maxHeartbeats 2000000 in
theorem m_boatDigest (S : ST) (T : TD) (n : Nat) (b : Nat → Nat) (n' : Nat) (b' : Nat → Nat) (hL : ML T n b n' b' S) (hto : tok T) (G : SD) (hg : SM G S) (hgo : sok G) (h : Int64) (k : Nat) (hk : k < tnb T) (hB : BT T S) : EX me_R_boatDigest 10 [.ref 48, .long h, .int (nI k)] S (fun r u => r = some (.long (dgb T G (chF T) h k)) ∧ BT T u ∧ QM S u) := by
  refine EX.of mok_R_boatDigest (Nat.le_of_ble_eq_true rfl) ?_
  refine run_ok 6 (c' := (9, [(0, .ref 48), (1, .long h), (3, .int (nI k)), (4, .long h), (6, .int (nI 0))], [.int (nI 4), .int (nI 0)], S)) rfl ?_
  refine x_icmpN_ge 35 rfl rfl (by omega) (by omega) (fun hn => absurd hn (by decide)) (fun _ => ?_)
  refine run_ok 6 (c' := (22, [(0, .ref 48), (1, .long h), (3, .int (nI k)), (4, .long h), (6, .int (nI 0))], [.int (nI 0), .int (nI k), .ref 48, .long (31 * h)], S)) rfl ?_
  refine x_callV [.int (nI k), .int (nI 0)] rfl cv_R_boatOf.1 lk_7_166 cv_R_boatOf.2.1 cv_R_boatOf.2.2.1 rfl cv_R_boatOf.2.2.2.1 rfl rfl (Nat.le_of_ble_eq_true rfl) (by decide) cv_R_boatOf.2.2.2.2 (m_bof0 S T hB hto k hk) ?_
  rintro r z ⟨hr, hu⟩
  rw [hr, hu]
  clear hr hu r z
  refine run_ok 2 (c' := (27, [(0, .ref 48), (1, .long h), (3, .int (nI k)), (4, .long h), (6, .int (nI 0))], [.long ((31 * h) + ((nI (tso T k)).toInt64))], S)) rfl ?_
  obtain ⟨d1, e1⟩ : ∃ y : Int64, y = dg h (nI (tso T k)) := ⟨_, rfl⟩
  refine x_topl (v' := d1) e1.symm ?_
  refine run_ok 5 (c' := (9, [(0, .ref 48), (1, .long h), (3, .int (nI k)), (4, .long d1), (6, .int (nI 1))], [.int (nI 4), .int (nI 1)], S)) rfl ?_
  refine x_icmpN_ge 35 rfl rfl (by omega) (by omega) (fun hn => absurd hn (by decide)) (fun _ => ?_)
  refine run_ok 6 (c' := (22, [(0, .ref 48), (1, .long h), (3, .int (nI k)), (4, .long d1), (6, .int (nI 1))], [.int (nI 1), .int (nI k), .ref 48, .long (31 * d1)], S)) rfl ?_
  refine x_callV [.int (nI k), .int (nI 1)] rfl cv_R_boatOf.1 lk_7_166 cv_R_boatOf.2.1 cv_R_boatOf.2.2.1 rfl cv_R_boatOf.2.2.2.1 rfl rfl (Nat.le_of_ble_eq_true rfl) (by decide) cv_R_boatOf.2.2.2.2 (m_bof1 S T hB hto k hk) ?_
  rintro r z ⟨hr, hu⟩
  rw [hr, hu]
  clear hr hu r z
  refine run_ok 2 (c' := (27, [(0, .ref 48), (1, .long h), (3, .int (nI k)), (4, .long d1), (6, .int (nI 1))], [.long ((31 * d1) + ((nI (tbu T k)).toInt64))], S)) rfl ?_
  obtain ⟨d2, e2⟩ : ∃ y : Int64, y = dg d1 (nI (tbu T k)) := ⟨_, rfl⟩
  refine x_topl (v' := d2) e2.symm ?_
  refine run_ok 5 (c' := (9, [(0, .ref 48), (1, .long h), (3, .int (nI k)), (4, .long d2), (6, .int (nI 2))], [.int (nI 4), .int (nI 2)], S)) rfl ?_
  refine x_icmpN_ge 35 rfl rfl (by omega) (by omega) (fun hn => absurd hn (by decide)) (fun _ => ?_)
  refine run_ok 6 (c' := (22, [(0, .ref 48), (1, .long h), (3, .int (nI k)), (4, .long d2), (6, .int (nI 2))], [.int (nI 2), .int (nI k), .ref 48, .long (31 * d2)], S)) rfl ?_
  refine x_callV [.int (nI k), .int (nI 2)] rfl cv_R_boatOf.1 lk_7_166 cv_R_boatOf.2.1 cv_R_boatOf.2.2.1 rfl cv_R_boatOf.2.2.2.1 rfl rfl (Nat.le_of_ble_eq_true rfl) (by decide) cv_R_boatOf.2.2.2.2 (m_bof2 S T hB hto k hk) ?_
  rintro r z ⟨hr, hu⟩
  rw [hr, hu]
  clear hr hu r z
  refine run_ok 2 (c' := (27, [(0, .ref 48), (1, .long h), (3, .int (nI k)), (4, .long d2), (6, .int (nI 2))], [.long ((31 * d2) + ((nI (tla T k)).toInt64))], S)) rfl ?_
  obtain ⟨d3, e3⟩ : ∃ y : Int64, y = dg d2 (nI (tla T k)) := ⟨_, rfl⟩
  refine x_topl (v' := d3) e3.symm ?_
  refine run_ok 5 (c' := (9, [(0, .ref 48), (1, .long h), (3, .int (nI k)), (4, .long d3), (6, .int (nI 3))], [.int (nI 4), .int (nI 3)], S)) rfl ?_
  refine x_icmpN_ge 35 rfl rfl (by omega) (by omega) (fun hn => absurd hn (by decide)) (fun _ => ?_)
  refine run_ok 6 (c' := (22, [(0, .ref 48), (1, .long h), (3, .int (nI k)), (4, .long d3), (6, .int (nI 3))], [.int (nI 3), .int (nI k), .ref 48, .long (31 * d3)], S)) rfl ?_
  refine x_callV [.int (nI k), .int (nI 3)] rfl cv_R_boatOf.1 lk_7_166 cv_R_boatOf.2.1 cv_R_boatOf.2.2.1 rfl cv_R_boatOf.2.2.2.1 rfl rfl (Nat.le_of_ble_eq_true rfl) (by decide) cv_R_boatOf.2.2.2.2 (m_bof3 S T hB hto k hk) ?_
  rintro r z ⟨hr, hu⟩
  rw [hr, hu]
  clear hr hu r z
  refine run_ok 2 (c' := (27, [(0, .ref 48), (1, .long h), (3, .int (nI k)), (4, .long d3), (6, .int (nI 3))], [.long ((31 * d3) + ((nI (tst T k)).toInt64))], S)) rfl ?_
  obtain ⟨d4, e4⟩ : ∃ y : Int64, y = dg d3 (nI (tst T k)) := ⟨_, rfl⟩
  refine x_topl (v' := d4) e4.symm ?_
  refine run_ok 5 (c' := (9, [(0, .ref 48), (1, .long h), (3, .int (nI k)), (4, .long d4), (6, .int (nI 4))], [.int (nI 4), .int (nI 4)], S)) rfl ?_
  refine x_icmpN_ge 35 rfl rfl (by omega) (by omega) (fun _ => ?_) (fun hn => absurd hn (by decide))
  refine run_ok 4 (c' := (40, [(0, .ref 48), (1, .long h), (3, .int (nI k)), (4, .long d4), (6, .int (nI 4))], [.int (nI k), .int (nI 0), .long d4, .ref 48], S)) rfl ?_
  refine x_callV [.long d4, .int (nI 0), .int (nI k)] rfl cv_R_weekDigest.1 lk_7_338 cv_R_weekDigest.2.1 cv_R_weekDigest.2.2.1 rfl cv_R_weekDigest.2.2.2.1 rfl rfl (Nat.le_of_ble_eq_true rfl) (by decide) cv_R_weekDigest.2.2.2.2 (m_weekDigest S T n b n' b' (hL.stay QM.rf) hto d4 0 k (by omega) hk) ?_
  rintro r u1 ⟨hr, hqu1⟩
  rw [hr]
  clear hr r
  have hQu1 : QM S u1 := QM.rf.tr hqu1
  obtain ⟨d5, e5⟩ : ∃ y : Int64, y = dgw T d4 k 0 := ⟨_, rfl⟩
  refine x_topl (v' := d5) e5.symm ?_
  refine run_ok 5 (c' := (51, [(0, .ref 48), (1, .long h), (3, .int (nI k)), (4, .long d5), (6, .int (nI 4))], [.int (nI k), .int (nI 7), .long d5, .ref 48], u1)) rfl ?_
  refine x_callV [.long d5, .int (nI 7), .int (nI k)] rfl cv_R_weekDigest.1 lk_7_338 cv_R_weekDigest.2.1 cv_R_weekDigest.2.2.1 rfl cv_R_weekDigest.2.2.2.1 rfl rfl (Nat.le_of_ble_eq_true rfl) (by decide) cv_R_weekDigest.2.2.2.2 (m_weekDigest u1 T n b n' b' (hL.stay hQu1) hto d5 7 k (by omega) hk) ?_
  rintro r u2 ⟨hr, hqu2⟩
  rw [hr]
  clear hr r
  have hQu2 : QM S u2 := hQu1.tr hqu2
  obtain ⟨d6, e6⟩ : ∃ y : Int64, y = dgw T d5 k 7 := ⟨_, rfl⟩
  refine x_topl (v' := d6) e6.symm ?_
  refine run_ok 5 (c' := (62, [(0, .ref 48), (1, .long h), (3, .int (nI k)), (4, .long d6), (6, .int (nI 4))], [.int (nI k), .int (nI 15), .long d6, .ref 48], u2)) rfl ?_
  refine x_callV [.long d6, .int (nI 15), .int (nI k)] rfl cv_R_weekDigest.1 lk_7_338 cv_R_weekDigest.2.1 cv_R_weekDigest.2.2.1 rfl cv_R_weekDigest.2.2.2.1 rfl rfl (Nat.le_of_ble_eq_true rfl) (by decide) cv_R_weekDigest.2.2.2.2 (m_weekDigest u2 T n b n' b' (hL.stay hQu2) hto d6 15 k (by omega) hk) ?_
  rintro r u3 ⟨hr, hqu3⟩
  rw [hr]
  clear hr r
  have hQu3 : QM S u3 := hQu2.tr hqu3
  obtain ⟨d7, e7⟩ : ∃ y : Int64, y = dgw T d6 k 15 := ⟨_, rfl⟩
  refine x_topl (v' := d7) e7.symm ?_
  refine run_ok 5 (c' := (73, [(0, .ref 48), (1, .long h), (3, .int (nI k)), (4, .long d7), (6, .int (nI 4))], [.int (nI k), .int (nI 23), .long d7, .ref 48], u3)) rfl ?_
  refine x_callV [.long d7, .int (nI 23), .int (nI k)] rfl cv_R_weekDigest.1 lk_7_338 cv_R_weekDigest.2.1 cv_R_weekDigest.2.2.1 rfl cv_R_weekDigest.2.2.2.1 rfl rfl (Nat.le_of_ble_eq_true rfl) (by decide) cv_R_weekDigest.2.2.2.2 (m_weekDigest u3 T n b n' b' (hL.stay hQu3) hto d7 23 k (by omega) hk) ?_
  rintro r u4 ⟨hr, hqu4⟩
  rw [hr]
  clear hr r
  have hQu4 : QM S u4 := hQu3.tr hqu4
  obtain ⟨d8, e8⟩ : ∃ y : Int64, y = dgw T d7 k 23 := ⟨_, rfl⟩
  refine x_topl (v' := d8) e8.symm ?_
  refine run_ok 6 (c' := (86, [(0, .ref 48), (1, .long h), (3, .int (nI k)), (4, .long d8), (6, .int (nI 4))], [.int (nI k), .ref 48, .long (31 * d8)], u4)) rfl ?_
  refine x_callV [.int (nI k)] rfl cv_R_longOf.1 lk_7_263 cv_R_longOf.2.1 cv_R_longOf.2.2.1 rfl cv_R_longOf.2.2.2.1 rfl rfl (Nat.le_of_ble_eq_true rfl) (by decide) cv_R_longOf.2.2.2.2 (m_longOf u4 T n b n' b' (hL.stay hQu4) hto k hk) ?_
  rintro r u5 ⟨hr, hqu5⟩
  rw [hr]
  clear hr r
  have hQu5 : QM S u5 := hQu4.tr hqu5
  refine run_ok 2 (c' := (91, [(0, .ref 48), (1, .long h), (3, .int (nI k)), (4, .long d8), (6, .int (nI 4))], [.long ((31 * d8) + ((nI (lsn T 24 k)).toInt64))], u5)) rfl ?_
  obtain ⟨d9, e9⟩ : ∃ y : Int64, y = dg d8 (nI (lsn T 24 k)) := ⟨_, rfl⟩
  refine x_topl (v' := d9) e9.symm ?_
  refine run_ok 7 (c' := (102, [(0, .ref 48), (1, .long h), (3, .int (nI k)), (4, .long d9), (6, .int (nI 4))], [.int (nI 0), .int (nI k), .ref 48, .long (31 * d9)], u5)) rfl ?_
  refine x_callV [.int (nI k), .int (nI 0)] rfl cv_R_wrongOf.1 lk_7_266 cv_R_wrongOf.2.1 cv_R_wrongOf.2.2.1 rfl cv_R_wrongOf.2.2.2.1 rfl rfl (Nat.le_of_ble_eq_true rfl) (by decide) cv_R_wrongOf.2.2.2.2 (m_wrongOf0 u5 T n b n' b' (hL.stay hQu5) hto k hk) ?_
  rintro r u6 ⟨hr, hqu6⟩
  rw [hr]
  clear hr r
  have hQu6 : QM S u6 := hQu5.tr hqu6
  refine run_ok 2 (c' := (107, [(0, .ref 48), (1, .long h), (3, .int (nI k)), (4, .long d9), (6, .int (nI 4))], [.long ((31 * d9) + ((whv (wrg T k 8).1).toInt64))], u6)) rfl ?_
  obtain ⟨d10, e10⟩ : ∃ y : Int64, y = dg d9 (whv (wrg T k 8).1) := ⟨_, rfl⟩
  refine x_topl (v' := d10) e10.symm ?_
  refine run_ok 7 (c' := (118, [(0, .ref 48), (1, .long h), (3, .int (nI k)), (4, .long d10), (6, .int (nI 4))], [.int (nI 1), .int (nI k), .ref 48, .long (31 * d10)], u6)) rfl ?_
  refine x_callV [.int (nI k), .int (nI 1)] rfl cv_R_wrongOf.1 lk_7_266 cv_R_wrongOf.2.1 cv_R_wrongOf.2.2.1 rfl cv_R_wrongOf.2.2.2.1 rfl rfl (Nat.le_of_ble_eq_true rfl) (by decide) cv_R_wrongOf.2.2.2.2 (m_wrongOf1 u6 T n b n' b' (hL.stay hQu6) hto k hk) ?_
  rintro r u7 ⟨hr, hqu7⟩
  rw [hr]
  clear hr r
  have hQu7 : QM S u7 := hQu6.tr hqu7
  refine run_ok 2 (c' := (123, [(0, .ref 48), (1, .long h), (3, .int (nI k)), (4, .long d10), (6, .int (nI 4))], [.long ((31 * d10) + ((nI (wrg T k 8).2).toInt64))], u7)) rfl ?_
  obtain ⟨d11, e11⟩ : ∃ y : Int64, y = dg d10 (nI (wrg T k 8).2) := ⟨_, rfl⟩
  refine x_topl (v' := d11) e11.symm ?_
  refine run_ok 7 (c' := (134, [(0, .ref 48), (1, .long h), (3, .int (nI k)), (4, .long d11), (6, .int (nI 4))], [.int (nI 0), .int (nI k), .ref 48, .long (31 * d11)], u7)) rfl ?_
  refine x_callV [.int (nI k), .int (nI 0)] rfl cv_R_payOf.1 lk_7_269 cv_R_payOf.2.1 cv_R_payOf.2.2.1 rfl cv_R_payOf.2.2.2.1 rfl rfl (Nat.le_of_ble_eq_true rfl) (by decide) cv_R_payOf.2.2.2.2 (m_payOf0 u7 T n b n' b' (hL.stay hQu7) hto k hk) ?_
  rintro r u8 ⟨hr, hqu8⟩
  rw [hr]
  clear hr r
  have hQu8 : QM S u8 := hQu7.tr hqu8
  refine run_ok 2 (c' := (139, [(0, .ref 48), (1, .long h), (3, .int (nI k)), (4, .long d11), (6, .int (nI 4))], [.long ((31 * d11) + ((whv (pyf T k 24).1).toInt64))], u8)) rfl ?_
  obtain ⟨d12, e12⟩ : ∃ y : Int64, y = dg d11 (whv (pyf T k 24).1) := ⟨_, rfl⟩
  refine x_topl (v' := d12) e12.symm ?_
  refine run_ok 7 (c' := (150, [(0, .ref 48), (1, .long h), (3, .int (nI k)), (4, .long d12), (6, .int (nI 4))], [.int (nI 1), .int (nI k), .ref 48, .long (31 * d12)], u8)) rfl ?_
  refine x_callV [.int (nI k), .int (nI 1)] rfl cv_R_payOf.1 lk_7_269 cv_R_payOf.2.1 cv_R_payOf.2.2.1 rfl cv_R_payOf.2.2.2.1 rfl rfl (Nat.le_of_ble_eq_true rfl) (by decide) cv_R_payOf.2.2.2.2 (m_payOf1 u8 T n b n' b' (hL.stay hQu8) hto k hk) ?_
  rintro r u9 ⟨hr, hqu9⟩
  rw [hr]
  clear hr r
  have hQu9 : QM S u9 := hQu8.tr hqu9
  refine run_ok 2 (c' := (155, [(0, .ref 48), (1, .long h), (3, .int (nI k)), (4, .long d12), (6, .int (nI 4))], [.long ((31 * d12) + ((nI (pyf T k 24).2).toInt64))], u9)) rfl ?_
  obtain ⟨d13, e13⟩ : ∃ y : Int64, y = dg d12 (nI (pyf T k 24).2) := ⟨_, rfl⟩
  refine x_topl (v' := d13) e13.symm ?_
  refine run_ok 7 (c' := (166, [(0, .ref 48), (1, .long h), (3, .int (nI k)), (4, .long d13), (6, .int (nI 4))], [.int (nI 0), .int (nI k), .ref 48, .long (31 * d13)], u9)) rfl ?_
  refine x_callV [.int (nI k), .int (nI 0)] rfl cv_R_waitsOf.1 lk_7_272 cv_R_waitsOf.2.1 cv_R_waitsOf.2.2.1 rfl cv_R_waitsOf.2.2.2.1 rfl rfl (Nat.le_of_ble_eq_true rfl) (by decide) cv_R_waitsOf.2.2.2.2 (m_waitsOf0 u9 T n b n' b' (hL.stay hQu9) hto k hk) ?_
  rintro r u10 ⟨hr, hqu10⟩
  rw [hr]
  clear hr r
  have hQu10 : QM S u10 := hQu9.tr hqu10
  refine run_ok 2 (c' := (171, [(0, .ref 48), (1, .long h), (3, .int (nI k)), (4, .long d13), (6, .int (nI 4))], [.long ((31 * d13) + ((whv (waf T k 24).1).toInt64))], u10)) rfl ?_
  obtain ⟨d14, e14⟩ : ∃ y : Int64, y = dg d13 (whv (waf T k 24).1) := ⟨_, rfl⟩
  refine x_topl (v' := d14) e14.symm ?_
  refine run_ok 7 (c' := (182, [(0, .ref 48), (1, .long h), (3, .int (nI k)), (4, .long d14), (6, .int (nI 4))], [.int (nI 1), .int (nI k), .ref 48, .long (31 * d14)], u10)) rfl ?_
  refine x_callV [.int (nI k), .int (nI 1)] rfl cv_R_waitsOf.1 lk_7_272 cv_R_waitsOf.2.1 cv_R_waitsOf.2.2.1 rfl cv_R_waitsOf.2.2.2.1 rfl rfl (Nat.le_of_ble_eq_true rfl) (by decide) cv_R_waitsOf.2.2.2.2 (m_waitsOf1 u10 T n b n' b' (hL.stay hQu10) hto k hk) ?_
  rintro r u11 ⟨hr, hqu11⟩
  rw [hr]
  clear hr r
  have hQu11 : QM S u11 := hQu10.tr hqu11
  refine run_ok 2 (c' := (187, [(0, .ref 48), (1, .long h), (3, .int (nI k)), (4, .long d14), (6, .int (nI 4))], [.long ((31 * d14) + ((nI (waf T k 24).2).toInt64))], u11)) rfl ?_
  obtain ⟨d15, e15⟩ : ∃ y : Int64, y = dg d14 (nI (waf T k 24).2) := ⟨_, rfl⟩
  refine x_topl (v' := d15) e15.symm ?_
  refine run_ok 6 (c' := (197, [(0, .ref 48), (1, .long h), (3, .int (nI k)), (4, .long d15), (6, .int (nI 4))], [.int (nI k), .ref 48, .long (31 * d15)], u11)) rfl ?_
  refine x_callV [.int (nI k)] rfl cv_R_sortsBy.1 lk_7_294 cv_R_sortsBy.2.1 cv_R_sortsBy.2.2.1 rfl cv_R_sortsBy.2.2.2.1 rfl rfl (Nat.le_of_ble_eq_true rfl) (by decide) cv_R_sortsBy.2.2.2.2 (m_sortsBy u11 T n b n' b' (hL.stay hQu11) hto G (hg.stay hQu11) hgo k hk) ?_
  rintro r u12 ⟨hr, hqu12⟩
  rw [hr]
  clear hr r
  have hQu12 : QM S u12 := hQu11.tr hqu12
  refine run_ok 2 (c' := (202, [(0, .ref 48), (1, .long h), (3, .int (nI k)), (4, .long d15), (6, .int (nI 4))], [.long ((31 * d15) + ((nI (bst (fun i => fitb (wso T (upn (tso T) k i)) (vo (wso T (upn (tso T) k i)) 24) G G.1) 3)).toInt64))], u12)) rfl ?_
  obtain ⟨d16, e16⟩ : ∃ y : Int64, y = dg d15 (nI (bst (fun i => fitb (wso T (upn (tso T) k i)) (vo (wso T (upn (tso T) k i)) 24) G G.1) 3)) := ⟨_, rfl⟩
  refine x_topl (v' := d16) e16.symm ?_
  refine run_ok 8 (c' := (214, [(0, .ref 48), (1, .long h), (3, .int (nI k)), (4, .long d16), (6, .int (nI 4))], [.int (nI 0), .int (nI k), .int (nI 5), .ref 48, .long (31 * d16)], u12)) rfl ?_
  refine x_callV [.int (nI 5), .int (nI k), .int (nI 0)] rfl cv_R_chanceOf.1 lk_7_310 cv_R_chanceOf.2.1 cv_R_chanceOf.2.2.1 rfl cv_R_chanceOf.2.2.2.1 rfl rfl (Nat.le_of_ble_eq_true rfl) (by decide) cv_R_chanceOf.2.2.2.2 (m_chanceOf0 u12 T n b n' b' (hL.stay hQu12) hto 5 k (by decide) hk) ?_
  rintro r u13 ⟨hr, hB0, hqu13⟩
  rw [hr]
  clear hr r
  have hQu13 : QM S u13 := hQu12.tr hqu13
  refine run_ok 1 (c' := (218, [(0, .ref 48), (1, .long h), (3, .int (nI k)), (4, .long d16), (6, .int (nI 4))], [.long ((31 * d16) + (lN (chF T k / 2 ^ hlv (chF T k) (4 * tne T) 0)))], u13)) rfl ?_
  obtain ⟨d17, e17⟩ : ∃ y : Int64, y = 31 * d16 + (lN (chF T k / 2 ^ hlv (chF T k) (4 * tne T) 0)) := ⟨_, rfl⟩
  refine x_topl (v' := d17) e17.symm ?_
  refine run_ok 8 (c' := (230, [(0, .ref 48), (1, .long h), (3, .int (nI k)), (4, .long d17), (6, .int (nI 4))], [.int (nI 1), .int (nI k), .int (nI 5), .ref 48, .long (31 * d17)], u13)) rfl ?_
  refine x_callV [.int (nI 5), .int (nI k), .int (nI 1)] rfl cv_R_chanceOf.1 lk_7_310 cv_R_chanceOf.2.1 cv_R_chanceOf.2.2.1 rfl cv_R_chanceOf.2.2.2.1 rfl rfl (Nat.le_of_ble_eq_true rfl) (by decide) cv_R_chanceOf.2.2.2.2 (m_chanceOf1 u13 T n b n' b' (hL.stay hQu13) hto 5 k (by decide) hk) ?_
  rintro r u14 ⟨hr, hB1, hqu14⟩
  rw [hr]
  clear hr r
  have hQu14 : QM S u14 := hQu13.tr hqu14
  refine run_ok 1 (c' := (234, [(0, .ref 48), (1, .long h), (3, .int (nI k)), (4, .long d17), (6, .int (nI 4))], [.long ((31 * d17) + (lN (2 ^ (4 * tne T - hlv (chF T k) (4 * tne T) 0))))], u14)) rfl ?_
  obtain ⟨d18, e18⟩ : ∃ y : Int64, y = 31 * d17 + (lN (2 ^ (4 * tne T - hlv (chF T k) (4 * tne T) 0))) := ⟨_, rfl⟩
  refine x_topl (v' := d18) e18.symm ?_
  exact x_ret (r := some (.long d18)) rfl rfl trivial ⟨by subst e18 e17 e16 e15 e14 e13 e12 e11 e10 e9 e8 e7 e6 e5 e4 e3 e2 e1; rfl, hB1, hQu14⟩ rfl

set_option maxHeartbeats 2000000 in
theorem m_personDigest (S : ST) (T : TD) (n : Nat) (b : Nat → Nat) (n' : Nat) (b' : Nat → Nat) (hL : ML T n b n' b' S) (hto : tok T) (G : SD) (hg : SM G S) (hgo : sok G) (h : Int64) (p : Nat) (hp : p < 8) : EX me_R_personDigest 9 [.ref 48, .long h, .int (nI p)] S (fun r u => r = some (.long (dgp T G h p)) ∧ QM S u) := by
  refine EX.of mok_R_personDigest (Nat.le_of_ble_eq_true rfl) ?_
  refine run_ok 3 (c' := (3, [(0, .ref 48), (1, .long h), (3, .int (nI p))], [.int ((nI p) + (nI 1))], S)) rfl ?_
  refine x_top (v' := nI (p + 1)) (nI_add _ _) ?_
  refine run_ok 1 (c' := (5, [(0, .ref 48), (1, .long h), (3, .int (nI p))], [.int (nI 8), .int (nI (p + 1))], S)) rfl ?_
  refine x_irem rfl (by decide) ?_
  refine x_top (v' := nI ((p + 1) % 8)) (pk_rem (by omega) (by omega) (by omega)) ?_
  refine run_ok 7 (c' := (16, [(0, .ref 48), (1, .long h), (3, .int (nI p)), (4, .int (nI ((p + 1) % 8)))], [.int (nI 0), .int (nI p), .ref 48, .long (31 * h)], S)) rfl ?_
  refine x_callV [.int (nI p), .int (nI 0)] rfl cv_R_namedOf.1 lk_7_244 cv_R_namedOf.2.1 cv_R_namedOf.2.2.1 rfl cv_R_namedOf.2.2.2.1 rfl rfl (Nat.le_of_ble_eq_true rfl) (by decide) cv_R_namedOf.2.2.2.2 (m_namedOf0 S T n b n' b' (hL.stay QM.rf) hto p hp) ?_
  rintro r u1 ⟨hr, hqu1⟩
  rw [hr]
  clear hr r
  have hQu1 : QM S u1 := QM.rf.tr hqu1
  refine run_ok 2 (c' := (21, [(0, .ref 48), (1, .long h), (3, .int (nI p)), (4, .int (nI ((p + 1) % 8)))], [.long ((31 * h) + ((nI (cnt (fun k => decide (vnm (vo T 24) k = p ∧ (0 = 1 → vis (vo T 24) k = 2))) (tnb T))).toInt64))], u1)) rfl ?_
  obtain ⟨d1, e1⟩ : ∃ y : Int64, y = dg h (nI (cnt (fun k => decide (vnm (vo T 24) k = p ∧ (0 = 1 → vis (vo T 24) k = 2))) (tnb T))) := ⟨_, rfl⟩
  refine x_topl (v' := d1) e1.symm ?_
  refine run_ok 7 (c' := (32, [(0, .ref 48), (1, .long h), (3, .int (nI p)), (4, .int (nI ((p + 1) % 8))), (5, .long d1)], [.int (nI 1), .int (nI p), .ref 48, .long (31 * d1)], u1)) rfl ?_
  refine x_callV [.int (nI p), .int (nI 1)] rfl cv_R_namedOf.1 lk_7_244 cv_R_namedOf.2.1 cv_R_namedOf.2.2.1 rfl cv_R_namedOf.2.2.2.1 rfl rfl (Nat.le_of_ble_eq_true rfl) (by decide) cv_R_namedOf.2.2.2.2 (m_namedOf1 u1 T n b n' b' (hL.stay hQu1) hto p hp) ?_
  rintro r u2 ⟨hr, hqu2⟩
  rw [hr]
  clear hr r
  have hQu2 : QM S u2 := hQu1.tr hqu2
  refine run_ok 2 (c' := (37, [(0, .ref 48), (1, .long h), (3, .int (nI p)), (4, .int (nI ((p + 1) % 8))), (5, .long d1)], [.long ((31 * d1) + ((nI (cnt (fun k => decide (vnm (vo T 24) k = p ∧ (1 = 1 → vis (vo T 24) k = 2))) (tnb T))).toInt64))], u2)) rfl ?_
  obtain ⟨d2, e2⟩ : ∃ y : Int64, y = dg d1 (nI (cnt (fun k => decide (vnm (vo T 24) k = p ∧ (1 = 1 → vis (vo T 24) k = 2))) (tnb T))) := ⟨_, rfl⟩
  refine x_topl (v' := d2) e2.symm ?_
  refine run_ok 8 (c' := (51, [(0, .ref 48), (1, .long h), (3, .int (nI p)), (4, .int (nI ((p + 1) % 8))), (5, .long d2)], [.int (nI ((p + 1) % 8)), .int (nI p), .int (nI 23), .ref 48, .long (31 * d2)], u2)) rfl ?_
  refine x_callV [.int (nI 23), .int (nI p), .int (nI ((p + 1) % 8))] rfl cv_R_hatesOf.1 lk_7_229 cv_R_hatesOf.2.1 cv_R_hatesOf.2.2.1 rfl cv_R_hatesOf.2.2.2.1 rfl rfl (Nat.le_of_ble_eq_true rfl) (by decide) cv_R_hatesOf.2.2.2.2 (m_hatesOf u2 T n b n' b' (hL.stay hQu2) hto 23 p ((p + 1) % 8) (by decide) hp (by omega)) ?_
  rintro r u3 ⟨hr, hqu3⟩
  rw [hr]
  clear hr r
  have hQu3 : QM S u3 := hQu2.tr hqu3
  refine run_ok 2 (c' := (56, [(0, .ref 48), (1, .long h), (3, .int (nI p)), (4, .int (nI ((p + 1) % 8))), (5, .long d2)], [.long ((31 * d2) + ((nI (vh (vo T 24) (8 * p + ((p + 1) % 8)))).toInt64))], u3)) rfl ?_
  obtain ⟨d3, e3⟩ : ∃ y : Int64, y = dg d2 (nI (vh (vo T 24) (8 * p + ((p + 1) % 8)))) := ⟨_, rfl⟩
  refine x_topl (v' := d3) e3.symm ?_
  refine run_ok 7 (c' := (68, [(0, .ref 48), (1, .long h), (3, .int (nI p)), (4, .int (nI ((p + 1) % 8))), (5, .long d3)], [.int (nI ((p + 1) % 8)), .int (nI p), .ref 48, .long (31 * d3)], u3)) rfl ?_
  refine x_callV [.int (nI p), .int (nI ((p + 1) % 8))] rfl cv_R_hatedBy.1 lk_7_300 cv_R_hatedBy.2.1 cv_R_hatedBy.2.2.1 rfl cv_R_hatedBy.2.2.2.1 rfl rfl (Nat.le_of_ble_eq_true rfl) (by decide) cv_R_hatedBy.2.2.2.2 (m_hatedBy u3 T n b n' b' (hL.stay hQu3) hto G (hg.stay hQu3) hgo p ((p + 1) % 8) hp (by omega)) ?_
  rintro r u4 ⟨hr, hN, hqu4⟩
  rw [hr]
  clear hr r
  have hQu4 : QM S u4 := hQu3.tr hqu4
  refine run_ok 2 (c' := (73, [(0, .ref 48), (1, .long h), (3, .int (nI p)), (4, .int (nI ((p + 1) % 8))), (5, .long d3)], [.long ((31 * d3) + ((nI (bst (fun i => fitb (wh T (upn (th T) (8 * p + (p + 1) % 8) i)) (vo (wh T (upn (th T) (8 * p + (p + 1) % 8) i)) 24) G G.1) 10)).toInt64))], u4)) rfl ?_
  obtain ⟨d4, e4⟩ : ∃ y : Int64, y = dg d3 (nI (bst (fun i => fitb (wh T (upn (th T) (8 * p + (p + 1) % 8) i)) (vo (wh T (upn (th T) (8 * p + (p + 1) % 8) i)) 24) G G.1) 10)) := ⟨_, rfl⟩
  refine x_topl (v' := d4) e4.symm ?_
  refine run_ok 7 (c' := (85, [(0, .ref 48), (1, .long h), (3, .int (nI p)), (4, .int (nI ((p + 1) % 8))), (5, .long d4)], [.int (nI ((p + 1) % 8)), .int (nI p), .ref 48, .long (31 * d4)], u4)) rfl ?_
  refine x_callV [.int (nI p), .int (nI ((p + 1) % 8))] rfl cv_R_askOf.1 lk_7_303 cv_R_askOf.2.1 cv_R_askOf.2.2.1 rfl cv_R_askOf.2.2.2.1 rfl rfl (Nat.le_of_ble_eq_true rfl) (by decide) cv_R_askOf.2.2.2.2 (m_askOf u4 T n b n' b' (hL.stay hQu4) hto G (hg.stay hQu4) hgo p ((p + 1) % 8) hp (by omega)) ?_
  rintro r u5 ⟨hr, hqu5⟩
  rw [hr]
  clear hr r
  have hQu5 : QM S u5 := hQu4.tr hqu5
  refine run_ok 2 (c' := (90, [(0, .ref 48), (1, .long h), (3, .int (nI p)), (4, .int (nI ((p + 1) % 8))), (5, .long d4)], [.long ((31 * d4) + ((whv (wta T (HH T p ((p + 1) % 8) G) (RR T p ((p + 1) % 8)) 24).1).toInt64))], u5)) rfl ?_
  obtain ⟨d5, e5⟩ : ∃ y : Int64, y = dg d4 (whv (wta T (HH T p ((p + 1) % 8) G) (RR T p ((p + 1) % 8)) 24).1) := ⟨_, rfl⟩
  refine x_topl (v' := d5) e5.symm ?_
  exact x_ret (r := some (.long d5)) rfl rfl trivial ⟨by subst e5 e4 e3 e2 e1; rfl, hQu5⟩ rfl

set_option maxHeartbeats 2000000 in
theorem m_digest (S : ST) (T : TD) (n : Nat) (b : Nat → Nat) (n' : Nat) (b' : Nat → Nat) (hL : ML T n b n' b' S) (hto : tok T) (G : SD) (hg : SM G S) (hgo : sok G) : EX me_R_digest 11 [.ref 48] S (fun r u => r = some (.long (dig T G (nI (hcn n b)) (nI n) (nI n') (nI G.1) (spv (flt (okh b) 4 n)) (spv (flt (okb b') 5 n')))) ∧ QM S u) := by
  refine EX.of mok_R_digest (Nat.le_of_ble_eq_true rfl) ?_
  have n8 := hto.1
  have H4 : ∀ (h : Int64) (u0 : ST), QM S u0 → dig T G (nI (hcn n b)) (nI n) (nI n') (nI G.1) (spv (flt (okh b) 4 n)) (spv (flt (okb b') 5 n')) = dfn T G h → BX me_R_digest 11 none (fun r u => r = some (.long (dig T G (nI (hcn n b)) (nI n) (nI n') (nI G.1) (spv (flt (okh b) 4 n)) (spv (flt (okb b') 5 n')))) ∧ QM S u) (128, [(0, .ref 48), (1, .long h)], [], u0) := by
    intro h u0 hQu0 hd
    refine run_ok 5 (c' := (135, [(0, .ref 48), (1, .long h)], [.int (nI 0), .ref 48, .long (31 * h)], u0)) rfl ?_
    refine x_callV [.int (nI 0)] rfl cv_R_firstOf.1 lk_7_247 cv_R_firstOf.2.1 cv_R_firstOf.2.2.1 rfl cv_R_firstOf.2.2.2.1 rfl rfl (Nat.le_of_ble_eq_true rfl) (by decide) cv_R_firstOf.2.2.2.2 (m_firstOf0 u0 T n b n' b' (hL.stay hQu0) hto) ?_
    rintro r u1 ⟨hr, hqu1⟩
    rw [hr]
    clear hr r
    have hQu1 : QM S u1 := hQu0.tr hqu1
    refine run_ok 2 (c' := (140, [(0, .ref 48), (1, .long h)], [.long ((31 * h) + ((fwv (vfw (vo T 24))).toInt64))], u1)) rfl ?_
    obtain ⟨d1, e1⟩ : ∃ y : Int64, y = dg h (fwv (vfw (vo T 24))) := ⟨_, rfl⟩
    refine x_topl (v' := d1) e1.symm ?_
    refine run_ok 6 (c' := (148, [(0, .ref 48), (1, .long d1)], [.int (nI 1), .ref 48, .long (31 * d1)], u1)) rfl ?_
    refine x_callV [.int (nI 1)] rfl cv_R_firstOf.1 lk_7_247 cv_R_firstOf.2.1 cv_R_firstOf.2.2.1 rfl cv_R_firstOf.2.2.2.1 rfl rfl (Nat.le_of_ble_eq_true rfl) (by decide) cv_R_firstOf.2.2.2.2 (m_firstOf1 u1 T n b n' b' (hL.stay hQu1) hto) ?_
    rintro r u2 ⟨hr, hqu2⟩
    rw [hr]
    clear hr r
    have hQu2 : QM S u2 := hQu1.tr hqu2
    refine run_ok 2 (c' := (153, [(0, .ref 48), (1, .long d1)], [.long ((31 * d1) + ((nmv (vfb (vo T 24))).toInt64))], u2)) rfl ?_
    obtain ⟨d2, e2⟩ : ∃ y : Int64, y = dg d1 (nmv (vfb (vo T 24))) := ⟨_, rfl⟩
    refine x_topl (v' := d2) e2.symm ?_
    refine run_ok 5 (c' := (160, [(0, .ref 48), (1, .long d2)], [.ref 48, .long (31 * d2)], u2)) rfl ?_
    refine x_callV [] rfl cv_R_lovedOf.1 lk_7_250 cv_R_lovedOf.2.1 cv_R_lovedOf.2.2.1 rfl cv_R_lovedOf.2.2.2.1 rfl rfl (Nat.le_of_ble_eq_true rfl) (by decide) cv_R_lovedOf.2.2.2.2 (m_lovedOf u2 T n b n' b' (hL.stay hQu2) hto) ?_
    rintro r u3 ⟨hr, hqu3⟩
    rw [hr]
    clear hr r
    have hQu3 : QM S u3 := hQu2.tr hqu3
    refine run_ok 2 (c' := (165, [(0, .ref 48), (1, .long d2)], [.long ((31 * d2) + ((nI (bst (fun p => decide ((wst (vh (vo T 24)) p 8).1 = 8)) 8)).toInt64))], u3)) rfl ?_
    obtain ⟨d3, e3⟩ : ∃ y : Int64, y = dg d2 (nI (bst (fun p => decide ((wst (vh (vo T 24)) p 8).1 = 8)) 8)) := ⟨_, rfl⟩
    refine x_topl (v' := d3) e3.symm ?_
    refine run_ok 5 (c' := (172, [(0, .ref 48), (1, .long d3)], [.ref 48, .long (31 * d3)], u3)) rfl ?_
    refine x_callV [] rfl cv_R_bitterOf.1 lk_7_257 cv_R_bitterOf.2.1 cv_R_bitterOf.2.2.1 rfl cv_R_bitterOf.2.2.2.1 rfl rfl (Nat.le_of_ble_eq_true rfl) (by decide) cv_R_bitterOf.2.2.2.2 (m_bitterOf u3 T n b n' b' (hL.stay hQu3) hto) ?_
    rintro r u4 ⟨hr, hqu4⟩
    rw [hr]
    clear hr r
    have hQu4 : QM S u4 := hQu3.tr hqu4
    refine run_ok 2 (c' := (177, [(0, .ref 48), (1, .long d3)], [.long ((31 * d3) + ((whv (bmx (fun p => shs (vh (vo T 24)) p 8) 8).1).toInt64))], u4)) rfl ?_
    obtain ⟨d4, e4⟩ : ∃ y : Int64, y = dg d3 (whv (bmx (fun p => shs (vh (vo T 24)) p 8) 8).1) := ⟨_, rfl⟩
    refine x_topl (v' := d4) e4.symm ?_
    refine run_ok 2 (c' := (179, [(0, .ref 48), (1, .long d4)], [.ref 48], u4)) rfl ?_
    refine x_callV [] rfl cv_R_spareBy.1 lk_7_278 cv_R_spareBy.2.1 cv_R_spareBy.2.2.1 rfl cv_R_spareBy.2.2.2.1 rfl rfl (Nat.le_of_ble_eq_true rfl) (by decide) cv_R_spareBy.2.2.2.2 (m_spareBy u4 T n b n' b' (hL.stay hQu4) hto) ?_
    rintro r u5 ⟨hr, hp, ha, hqu5⟩
    rw [hr]
    clear hr r
    have hQu5 : QM S u5 := hQu4.tr hqu5
    refine run_ok 7 (c' := (191, [(0, .ref 48), (1, .long d4), (3, .int (spa T none))], [.long ((31 * d4) + ((spa T none).toInt64))], u5)) rfl ?_
    obtain ⟨d5, e5⟩ : ∃ y : Int64, y = dg d4 (spa T none) := ⟨_, rfl⟩
    refine x_topl (v' := d5) e5.symm ?_
    refine run_ok 7 (c' := (200, [(0, .ref 48), (1, .long d5), (3, .int (spa T none))], [.int (nI 0), .int (spa T none), .ref 48, .long (31 * d5)], u5)) rfl ?_
    refine x_callV [.int (spa T none), .int (nI 0)] rfl cv_R_ofRow.1 lk_7_281 cv_R_ofRow.2.1 cv_R_ofRow.2.2.1 rfl cv_R_ofRow.2.2.2.1 rfl rfl (Nat.le_of_ble_eq_true rfl) (by decide) cv_R_ofRow.2.2.2.2 (m_ofRow_0 u5 (spa T none) (spa T (some 0)) (hp 0 (by decide)) (ha 0 (by decide))) ?_
    rintro r z ⟨hr, hu⟩
    rw [hr, hu]
    clear hr hu r z
    refine run_ok 2 (c' := (205, [(0, .ref 48), (1, .long d5), (3, .int (spa T none))], [.long ((31 * d5) + ((spa T (some 0)).toInt64))], u5)) rfl ?_
    obtain ⟨d6, e6⟩ : ∃ y : Int64, y = dg d5 (spa T (some 0)) := ⟨_, rfl⟩
    refine x_topl (v' := d6) e6.symm ?_
    refine run_ok 5 (c' := (212, [(0, .ref 48), (1, .long d6), (3, .int (spa T none))], [.ref 48, .long (31 * d6)], u5)) rfl ?_
    refine x_callV [] rfl cv_R_neverNow.1 lk_7_291 cv_R_neverNow.2.1 cv_R_neverNow.2.2.1 rfl cv_R_neverNow.2.2.2.1 rfl rfl (Nat.le_of_ble_eq_true rfl) (by decide) cv_R_neverNow.2.2.2.2 (m_neverNow u5 T n b n' b' (hL.stay hQu5) hto G (hg.stay hQu5) hgo) ?_
    rintro r u6 ⟨hr, hqu6⟩
    rw [hr]
    clear hr r
    have hQu6 : QM S u6 := hQu5.tr hqu6
    refine run_ok 2 (c' := (217, [(0, .ref 48), (1, .long d6), (3, .int (spa T none))], [.long ((31 * d6) + ((nI (bst (fun i => fitb (wlo T (2 ^ i)) (vo (wlo T (2 ^ i)) 24) G G.1) (tne T))).toInt64))], u6)) rfl ?_
    obtain ⟨d7, e7⟩ : ∃ y : Int64, y = dg d6 (nI (bst (fun i => fitb (wlo T (2 ^ i)) (vo (wlo T (2 ^ i)) 24) G G.1) (tne T))) := ⟨_, rfl⟩
    refine x_topl (v' := d7) e7.symm ?_
    refine run_ok 8 (c' := (229, [(0, .ref 48), (1, .long d7), (3, .int (spa T none))], [.int (nI 0), .int (nI 6), .int (nI 7), .ref 48, .long (31 * d7)], u6)) rfl ?_
    refine x_callV [.int (nI 7), .int (nI 6), .int (nI 0)] rfl cv_R_decadesOf.1 lk_7_319 cv_R_decadesOf.2.1 cv_R_decadesOf.2.2.1 rfl cv_R_decadesOf.2.2.2.1 rfl rfl (Nat.le_of_ble_eq_true rfl) (by decide) cv_R_decadesOf.2.2.2.2 (m_decadesOf0 u6 T n b n' b' (hL.stay hQu6) hto 7 6 (by decide)) ?_
    rintro r u7 ⟨hr, hqu7⟩
    rw [hr]
    clear hr r
    have hQu7 : QM S u7 := hQu6.tr hqu7
    refine run_ok 2 (c' := (234, [(0, .ref 48), (1, .long d7), (3, .int (spa T none))], [.long ((31 * d7) + ((nI (cnt (fun k => decide (vis (vo (dec T 7 6) 24) k = 2)) (tnb T))).toInt64))], u7)) rfl ?_
    obtain ⟨d8, e8⟩ : ∃ y : Int64, y = dg d7 (nI (cnt (fun k => decide (vis (vo (dec T 7 6) 24) k = 2)) (tnb T))) := ⟨_, rfl⟩
    refine x_topl (v' := d8) e8.symm ?_
    refine run_ok 8 (c' := (246, [(0, .ref 48), (1, .long d8), (3, .int (spa T none))], [.int (nI 1), .int (nI 6), .int (nI 7), .ref 48, .long (31 * d8)], u7)) rfl ?_
    refine x_callV [.int (nI 7), .int (nI 6), .int (nI 1)] rfl cv_R_decadesOf.1 lk_7_319 cv_R_decadesOf.2.1 cv_R_decadesOf.2.2.1 rfl cv_R_decadesOf.2.2.2.1 rfl rfl (Nat.le_of_ble_eq_true rfl) (by decide) cv_R_decadesOf.2.2.2.2 (m_decadesOf1 u7 T n b n' b' (hL.stay hQu7) hto 7 6 (by decide)) ?_
    rintro r u8 ⟨hr, hqu8⟩
    rw [hr]
    clear hr r
    have hQu8 : QM S u8 := hQu7.tr hqu8
    refine run_ok 2 (c' := (251, [(0, .ref 48), (1, .long d8), (3, .int (spa T none))], [.long ((31 * d8) + ((nI (cnt (fun k => decide (vis (vo (dec T 7 6) 24) k = 1)) (tnb T))).toInt64))], u8)) rfl ?_
    obtain ⟨d9, e9⟩ : ∃ y : Int64, y = dg d8 (nI (cnt (fun k => decide (vis (vo (dec T 7 6) 24) k = 1)) (tnb T))) := ⟨_, rfl⟩
    refine x_topl (v' := d9) e9.symm ?_
    exact x_ret (r := some (.long d9)) rfl rfl trivial ⟨by rw [hd]; subst e9 e8 e7 e6 e5 e4 e3 e2 e1; rfl, hQu8⟩ rfl
  have H3 : ∀ h : Int64, dig T G (nI (hcn n b)) (nI n) (nI n') (nI G.1) (spv (flt (okh b) 4 n)) (spv (flt (okb b') 5 n')) = dfn T G (dfd (fun h w => dg h (nI (cnt (fun k => decide (vis (vo T (w + 1)) k = 1)) (tnb T)))) h 24) → ∀ i, i ≤ 24 → ∀ v : ST, QM S v → BX me_R_digest 11 none (fun r u => r = some (.long (dig T G (nI (hcn n b)) (nI n) (nI n') (nI G.1) (spv (flt (okh b) 4 n)) (spv (flt (okb b') 5 n')))) ∧ QM S u) (103, [(0, .ref 48), (1, .long (dfd (fun h w => dg h (nI (cnt (fun k => decide (vis (vo T (w + 1)) k = 1)) (tnb T)))) h i)), (3, .int (nI i))], [], v) := by
    intro h hd
    refine loop_up (P := fun i => ∀ v : ST, QM S v → BX me_R_digest 11 none (fun r u => r = some (.long (dig T G (nI (hcn n b)) (nI n) (nI n') (nI G.1) (spv (flt (okh b) 4 n)) (spv (flt (okb b') 5 n')))) ∧ QM S u) (103, [(0, .ref 48), (1, .long (dfd (fun h w => dg h (nI (cnt (fun k => decide (vis (vo T (w + 1)) k = 1)) (tnb T)))) h i)), (3, .int (nI i))], [], v)) (24) ?_ ?_
    · intro v hQv
      refine run_ok 2 (c' := (106, [(0, .ref 48), (1, .long (dfd (fun h w => dg h (nI (cnt (fun k => decide (vis (vo T (w + 1)) k = 1)) (tnb T)))) h 24)), (3, .int (nI 24))], [.int (nI 24), .int (nI 24)], v)) rfl ?_
      refine x_icmpN_ge 128 rfl rfl (by omega) (by omega) (fun h106 => ?_) (fun hn => absurd (Nat.le_refl _) hn)
      refine x_less [0, 1] rfl ?_
      exact H4 _ v hQv hd
    · intro i hi ih v hQv
      refine run_ok 2 (c' := (106, [(0, .ref 48), (1, .long (dfd (fun h w => dg h (nI (cnt (fun k => decide (vis (vo T (w + 1)) k = 1)) (tnb T)))) h i)), (3, .int (nI i))], [.int (nI 24), .int (nI i)], v)) rfl ?_
      refine x_icmpN_ge 128 rfl rfl (by omega) (by omega) (fun hn => absurd hn (show ¬ 24 ≤ i by omega)) (fun h106 => ?_)
      refine run_ok 5 (c' := (116, [(0, .ref 48), (1, .long (dfd (fun h w => dg h (nI (cnt (fun k => decide (vis (vo T (w + 1)) k = 1)) (tnb T)))) h i)), (3, .int (nI i))], [.int (nI i), .ref 48, .long (31 * (dfd (fun h w => dg h (nI (cnt (fun k => decide (vis (vo T (w + 1)) k = 1)) (tnb T)))) h i))], v)) rfl ?_
      refine x_callV [.int (nI i)] rfl cv_R_afloatOf.1 lk_7_238 cv_R_afloatOf.2.1 cv_R_afloatOf.2.2.1 rfl cv_R_afloatOf.2.2.2.1 rfl rfl (Nat.le_of_ble_eq_true rfl) (by decide) cv_R_afloatOf.2.2.2.2 (m_afloatOf v T n b n' b' (hL.stay hQv) hto i hi) ?_
      rintro r u1 ⟨hr, hqu1⟩
      rw [hr]
      clear hr r
      have hQu1 : QM S u1 := hQv.tr hqu1
      refine run_ok 2 (c' := (121, [(0, .ref 48), (1, .long (dfd (fun h w => dg h (nI (cnt (fun k => decide (vis (vo T (w + 1)) k = 1)) (tnb T)))) h i)), (3, .int (nI i))], [.long ((31 * (dfd (fun h w => dg h (nI (cnt (fun k => decide (vis (vo T (w + 1)) k = 1)) (tnb T)))) h i)) + ((nI (cnt (fun k => decide (vis (vo T (i + 1)) k = 1)) (tnb T))).toInt64))], u1)) rfl ?_
      refine x_topl (v' := dfd (fun h w => dg h (nI (cnt (fun k => decide (vis (vo T (w + 1)) k = 1)) (tnb T)))) h (i + 1)) rfl ?_
      refine run_ok 2 (c' := (125, [(0, .ref 48), (1, .long (dfd (fun h w => dg h (nI (cnt (fun k => decide (vis (vo T (w + 1)) k = 1)) (tnb T)))) h (i + 1))), (3, .int (nI i + nI 1))], [], u1)) rfl ?_
      rw [nI_add i 1]
      refine run_ok 1 (c' := (103, [(0, .ref 48), (1, .long (dfd (fun h w => dg h (nI (cnt (fun k => decide (vis (vo T (w + 1)) k = 1)) (tnb T)))) h (i + 1))), (3, .int (nI (i + 1)))], [], u1)) rfl ?_
      exact ih _ hQu1
  have H2 : ∀ h : Int64, dig T G (nI (hcn n b)) (nI n) (nI n') (nI G.1) (spv (flt (okh b) 4 n)) (spv (flt (okb b') 5 n')) = dfn T G (dfd (fun h w => dg h (nI (cnt (fun k => decide (vis (vo T (w + 1)) k = 1)) (tnb T)))) (dfd (dgp T G) h 8) 24) → ∀ i, i ≤ 8 → ∀ v : ST, QM S v → BX me_R_digest 11 none (fun r u => r = some (.long (dig T G (nI (hcn n b)) (nI n) (nI n') (nI G.1) (spv (flt (okh b) 4 n)) (spv (flt (okb b') 5 n')))) ∧ QM S u) (82, [(0, .ref 48), (1, .long (dfd (dgp T G) h i)), (3, .int (nI i))], [], v) := by
    intro h hd
    refine loop_up (P := fun i => ∀ v : ST, QM S v → BX me_R_digest 11 none (fun r u => r = some (.long (dig T G (nI (hcn n b)) (nI n) (nI n') (nI G.1) (spv (flt (okh b) 4 n)) (spv (flt (okb b') 5 n')))) ∧ QM S u) (82, [(0, .ref 48), (1, .long (dfd (dgp T G) h i)), (3, .int (nI i))], [], v)) (8) ?_ ?_
    · intro v hQv
      refine run_ok 2 (c' := (85, [(0, .ref 48), (1, .long (dfd (dgp T G) h 8)), (3, .int (nI 8))], [.int (nI 8), .int (nI 8)], v)) rfl ?_
      refine x_icmpN_ge 101 rfl rfl (by omega) (by omega) (fun h85 => ?_) (fun hn => absurd (Nat.le_refl _) hn)
      refine run_ok 2 (c' := (103, [(0, .ref 48), (1, .long (dfd (dgp T G) h 8)), (3, .int (nI 0))], [], v)) rfl ?_
      have q := H3 (dfd (dgp T G) h 8) hd 0 (by omega) v hQv
      rw [dfd_0] at q
      exact q
    · intro i hi ih v hQv
      refine run_ok 2 (c' := (85, [(0, .ref 48), (1, .long (dfd (dgp T G) h i)), (3, .int (nI i))], [.int (nI 8), .int (nI i)], v)) rfl ?_
      refine x_icmpN_ge 101 rfl rfl (by omega) (by omega) (fun hn => absurd hn (show ¬ 8 ≤ i by omega)) (fun h85 => ?_)
      refine run_ok 3 (c' := (91, [(0, .ref 48), (1, .long (dfd (dgp T G) h i)), (3, .int (nI i))], [.int (nI i), .long (dfd (dgp T G) h i), .ref 48], v)) rfl ?_
      refine x_callV [.long (dfd (dgp T G) h i), .int (nI i)] rfl cv_R_personDigest.1 lk_7_351 cv_R_personDigest.2.1 cv_R_personDigest.2.2.1 rfl cv_R_personDigest.2.2.2.1 rfl rfl (Nat.le_of_ble_eq_true rfl) (by decide) cv_R_personDigest.2.2.2.2 (m_personDigest v T n b n' b' (hL.stay hQv) hto G (hg.stay hQv) hgo (dfd (dgp T G) h i) i hi) ?_
      rintro r u1 ⟨hr, hqu1⟩
      rw [hr]
      clear hr r
      have hQu1 : QM S u1 := hQv.tr hqu1
      refine x_topl (v' := dfd (dgp T G) h (i + 1)) rfl ?_
      refine run_ok 2 (c' := (98, [(0, .ref 48), (1, .long (dfd (dgp T G) h (i + 1))), (3, .int (nI i + nI 1))], [], u1)) rfl ?_
      rw [nI_add i 1]
      refine run_ok 1 (c' := (82, [(0, .ref 48), (1, .long (dfd (dgp T G) h (i + 1))), (3, .int (nI (i + 1)))], [], u1)) rfl ?_
      exact ih _ hQu1
  have H1 : ∀ h : Int64, dig T G (nI (hcn n b)) (nI n) (nI n') (nI G.1) (spv (flt (okh b) 4 n)) (spv (flt (okb b') 5 n')) = dfn T G (dfd (fun h w => dg h (nI (cnt (fun k => decide (vis (vo T (w + 1)) k = 1)) (tnb T)))) (dfd (dgp T G) (dfd (dgb T G (chF T)) h (tnb T)) 8) 24) → ∀ i, i ≤ tnb T → ∀ v : ST, QM S v → BT T v → BX me_R_digest 11 none (fun r u => r = some (.long (dig T G (nI (hcn n b)) (nI n) (nI n') (nI G.1) (spv (flt (okh b) 4 n)) (spv (flt (okb b') 5 n')))) ∧ QM S u) (59, [(0, .ref 48), (1, .long (dfd (dgb T G (chF T)) h i)), (3, .int (nI i))], [], v) := by
    intro h hd
    refine loop_up (P := fun i => ∀ v : ST, QM S v → BT T v → BX me_R_digest 11 none (fun r u => r = some (.long (dig T G (nI (hcn n b)) (nI n) (nI n') (nI G.1) (spv (flt (okh b) 4 n)) (spv (flt (okb b') 5 n')))) ∧ QM S u) (59, [(0, .ref 48), (1, .long (dfd (dgb T G (chF T)) h i)), (3, .int (nI i))], [], v)) (tnb T) ?_ ?_
    · intro v hQv hBv
      refine run_ok 3 (c' := (64, [(0, .ref 48), (1, .long (dfd (dgb T G (chF T)) h (tnb T))), (3, .int (nI (tnb T)))], [.int (v.1 48 5), .int (nI (tnb T))], v)) rfl ?_
      refine x_top (v' := nI (tnb T)) hBv.2.2.2.2 ?_
      refine x_icmpN_ge 80 rfl rfl (by omega) (by omega) (fun h64 => ?_) (fun hn => absurd (Nat.le_refl _) hn)
      refine run_ok 2 (c' := (82, [(0, .ref 48), (1, .long (dfd (dgb T G (chF T)) h (tnb T))), (3, .int (nI 0))], [], v)) rfl ?_
      have q := H2 (dfd (dgb T G (chF T)) h (tnb T)) hd 0 (by omega) v hQv
      rw [dfd_0] at q
      exact q
    · intro i hi ih v hQv hBv
      refine run_ok 3 (c' := (64, [(0, .ref 48), (1, .long (dfd (dgb T G (chF T)) h i)), (3, .int (nI i))], [.int (v.1 48 5), .int (nI i)], v)) rfl ?_
      refine x_top (v' := nI (tnb T)) hBv.2.2.2.2 ?_
      refine x_icmpN_ge 80 rfl rfl (by omega) (by omega) (fun hn => absurd hn (show ¬ tnb T ≤ i by omega)) (fun h64 => ?_)
      refine run_ok 3 (c' := (70, [(0, .ref 48), (1, .long (dfd (dgb T G (chF T)) h i)), (3, .int (nI i))], [.int (nI i), .long (dfd (dgb T G (chF T)) h i), .ref 48], v)) rfl ?_
      refine x_callV [.long (dfd (dgb T G (chF T)) h i), .int (nI i)] rfl cv_R_boatDigest.1 lk_7_347 cv_R_boatDigest.2.1 cv_R_boatDigest.2.2.1 rfl cv_R_boatDigest.2.2.2.1 rfl rfl (Nat.le_of_ble_eq_true rfl) (by decide) cv_R_boatDigest.2.2.2.2 (m_boatDigest v T n b n' b' (hL.stay hQv) hto G (hg.stay hQv) hgo (dfd (dgb T G (chF T)) h i) i hi hBv) ?_
      rintro r u1 ⟨hr, hBz, hqu1⟩
      rw [hr]
      clear hr r
      have hQu1 : QM S u1 := hQv.tr hqu1
      refine x_topl (v' := dfd (dgb T G (chF T)) h (i + 1)) rfl ?_
      refine run_ok 2 (c' := (77, [(0, .ref 48), (1, .long (dfd (dgb T G (chF T)) h (i + 1))), (3, .int (nI i + nI 1))], [], u1)) rfl ?_
      rw [nI_add i 1]
      refine run_ok 1 (c' := (59, [(0, .ref 48), (1, .long (dfd (dgb T G (chF T)) h (i + 1))), (3, .int (nI (i + 1)))], [], u1)) rfl ?_
      exact ih _ hQu1 hBz
  refine run_ok 6 (c' := (9, [(0, .ref 48), (1, .long 17), (3, .int (nI 0))], [.int (nI 8), .int (nI 0)], S)) rfl ?_
  refine x_icmpN_ge 31 rfl rfl (by omega) (by omega) (fun hn => absurd hn (by decide)) (fun _ => ?_)
  refine run_ok 5 (c' := (19, [(0, .ref 48), (1, .long 17), (3, .int (nI 0))], [.int (nI 0), .ref 48, .long (31 * 17)], S)) rfl ?_
  refine x_callV [.int (nI 0)] rfl cv_R_count.1 lk_7_344 cv_R_count.2.1 cv_R_count.2.2.1 rfl cv_R_count.2.2.2.1 rfl rfl (Nat.le_of_ble_eq_true rfl) (by decide) cv_R_count.2.2.2.2 (m_count0 S T n b n' b' (hL.stay QM.rf) hto) ?_
  rintro r u1 ⟨hr, hqu1⟩
  rw [hr]
  clear hr r
  have hQu1 : QM S u1 := QM.rf.tr hqu1
  refine run_ok 2 (c' := (24, [(0, .ref 48), (1, .long 17), (3, .int (nI 0))], [.long ((31 * 17) + ((nI (hcn n b)).toInt64))], u1)) rfl ?_
  obtain ⟨d1, e1⟩ : ∃ y : Int64, y = dg 17 (nI (hcn n b)) := ⟨_, rfl⟩
  refine x_topl (v' := d1) e1.symm ?_
  refine run_ok 5 (c' := (9, [(0, .ref 48), (1, .long d1), (3, .int (nI 1))], [.int (nI 8), .int (nI 1)], u1)) rfl ?_
  refine x_icmpN_ge 31 rfl rfl (by omega) (by omega) (fun hn => absurd hn (by decide)) (fun _ => ?_)
  refine run_ok 5 (c' := (19, [(0, .ref 48), (1, .long d1), (3, .int (nI 1))], [.int (nI 1), .ref 48, .long (31 * d1)], u1)) rfl ?_
  refine x_callV [.int (nI 1)] rfl cv_R_count.1 lk_7_344 cv_R_count.2.1 cv_R_count.2.2.1 rfl cv_R_count.2.2.2.1 rfl rfl (Nat.le_of_ble_eq_true rfl) (by decide) cv_R_count.2.2.2.2 (m_count1 u1 T n b n' b' (hL.stay hQu1) hto) ?_
  rintro r u2 ⟨hr, hqu2⟩
  rw [hr]
  clear hr r
  have hQu2 : QM S u2 := hQu1.tr hqu2
  refine run_ok 2 (c' := (24, [(0, .ref 48), (1, .long d1), (3, .int (nI 1))], [.long ((31 * d1) + ((nI (tnb T)).toInt64))], u2)) rfl ?_
  obtain ⟨d2, e2⟩ : ∃ y : Int64, y = dg d1 (nI (tnb T)) := ⟨_, rfl⟩
  refine x_topl (v' := d2) e2.symm ?_
  refine run_ok 5 (c' := (9, [(0, .ref 48), (1, .long d2), (3, .int (nI 2))], [.int (nI 8), .int (nI 2)], u2)) rfl ?_
  refine x_icmpN_ge 31 rfl rfl (by omega) (by omega) (fun hn => absurd hn (by decide)) (fun _ => ?_)
  refine run_ok 5 (c' := (19, [(0, .ref 48), (1, .long d2), (3, .int (nI 2))], [.int (nI 2), .ref 48, .long (31 * d2)], u2)) rfl ?_
  refine x_callV [.int (nI 2)] rfl cv_R_count.1 lk_7_344 cv_R_count.2.1 cv_R_count.2.2.1 rfl cv_R_count.2.2.2.1 rfl rfl (Nat.le_of_ble_eq_true rfl) (by decide) cv_R_count.2.2.2.2 (m_count2 u2 T n b n' b' (hL.stay hQu2) hto) ?_
  rintro r u3 ⟨hr, hqu3⟩
  rw [hr]
  clear hr r
  have hQu3 : QM S u3 := hQu2.tr hqu3
  refine run_ok 2 (c' := (24, [(0, .ref 48), (1, .long d2), (3, .int (nI 2))], [.long ((31 * d2) + ((nI n).toInt64))], u3)) rfl ?_
  obtain ⟨d3, e3⟩ : ∃ y : Int64, y = dg d2 (nI n) := ⟨_, rfl⟩
  refine x_topl (v' := d3) e3.symm ?_
  refine run_ok 5 (c' := (9, [(0, .ref 48), (1, .long d3), (3, .int (nI 3))], [.int (nI 8), .int (nI 3)], u3)) rfl ?_
  refine x_icmpN_ge 31 rfl rfl (by omega) (by omega) (fun hn => absurd hn (by decide)) (fun _ => ?_)
  refine run_ok 5 (c' := (19, [(0, .ref 48), (1, .long d3), (3, .int (nI 3))], [.int (nI 3), .ref 48, .long (31 * d3)], u3)) rfl ?_
  refine x_callV [.int (nI 3)] rfl cv_R_count.1 lk_7_344 cv_R_count.2.1 cv_R_count.2.2.1 rfl cv_R_count.2.2.2.1 rfl rfl (Nat.le_of_ble_eq_true rfl) (by decide) cv_R_count.2.2.2.2 (m_count3 u3 T n b n' b' (hL.stay hQu3) hto) ?_
  rintro r u4 ⟨hr, hqu4⟩
  rw [hr]
  clear hr r
  have hQu4 : QM S u4 := hQu3.tr hqu4
  refine run_ok 2 (c' := (24, [(0, .ref 48), (1, .long d3), (3, .int (nI 3))], [.long ((31 * d3) + ((nI n').toInt64))], u4)) rfl ?_
  obtain ⟨d4, e4⟩ : ∃ y : Int64, y = dg d3 (nI n') := ⟨_, rfl⟩
  refine x_topl (v' := d4) e4.symm ?_
  refine run_ok 5 (c' := (9, [(0, .ref 48), (1, .long d4), (3, .int (nI 4))], [.int (nI 8), .int (nI 4)], u4)) rfl ?_
  refine x_icmpN_ge 31 rfl rfl (by omega) (by omega) (fun hn => absurd hn (by decide)) (fun _ => ?_)
  refine run_ok 5 (c' := (19, [(0, .ref 48), (1, .long d4), (3, .int (nI 4))], [.int (nI 4), .ref 48, .long (31 * d4)], u4)) rfl ?_
  refine x_callV [.int (nI 4)] rfl cv_R_count.1 lk_7_344 cv_R_count.2.1 cv_R_count.2.2.1 rfl cv_R_count.2.2.2.1 rfl rfl (Nat.le_of_ble_eq_true rfl) (by decide) cv_R_count.2.2.2.2 (m_count4 u4 T n b n' b' (hL.stay hQu4) hto) ?_
  rintro r u5 ⟨hr, hqu5⟩
  rw [hr]
  clear hr r
  have hQu5 : QM S u5 := hQu4.tr hqu5
  refine run_ok 2 (c' := (24, [(0, .ref 48), (1, .long d4), (3, .int (nI 4))], [.long ((31 * d4) + ((nI (tne T)).toInt64))], u5)) rfl ?_
  obtain ⟨d5, e5⟩ : ∃ y : Int64, y = dg d4 (nI (tne T)) := ⟨_, rfl⟩
  refine x_topl (v' := d5) e5.symm ?_
  refine run_ok 5 (c' := (9, [(0, .ref 48), (1, .long d5), (3, .int (nI 5))], [.int (nI 8), .int (nI 5)], u5)) rfl ?_
  refine x_icmpN_ge 31 rfl rfl (by omega) (by omega) (fun hn => absurd hn (by decide)) (fun _ => ?_)
  refine run_ok 5 (c' := (19, [(0, .ref 48), (1, .long d5), (3, .int (nI 5))], [.int (nI 5), .ref 48, .long (31 * d5)], u5)) rfl ?_
  refine x_callV [.int (nI 5)] rfl cv_R_count.1 lk_7_344 cv_R_count.2.1 cv_R_count.2.2.1 rfl cv_R_count.2.2.2.1 rfl rfl (Nat.le_of_ble_eq_true rfl) (by decide) cv_R_count.2.2.2.2 (m_count5 u5 T n b n' b' (hL.stay hQu5) hto) ?_
  rintro r u6 ⟨hr, hqu6⟩
  rw [hr]
  clear hr r
  have hQu6 : QM S u6 := hQu5.tr hqu6
  refine run_ok 2 (c' := (24, [(0, .ref 48), (1, .long d5), (3, .int (nI 5))], [.long ((31 * d5) + ((nI (cnt (fun k => decide (vis (vo T 24) k = 2)) (tnb T))).toInt64))], u6)) rfl ?_
  obtain ⟨d6, e6⟩ : ∃ y : Int64, y = dg d5 (nI (cnt (fun k => decide (vis (vo T 24) k = 2)) (tnb T))) := ⟨_, rfl⟩
  refine x_topl (v' := d6) e6.symm ?_
  refine run_ok 5 (c' := (9, [(0, .ref 48), (1, .long d6), (3, .int (nI 6))], [.int (nI 8), .int (nI 6)], u6)) rfl ?_
  refine x_icmpN_ge 31 rfl rfl (by omega) (by omega) (fun hn => absurd hn (by decide)) (fun _ => ?_)
  refine run_ok 5 (c' := (19, [(0, .ref 48), (1, .long d6), (3, .int (nI 6))], [.int (nI 6), .ref 48, .long (31 * d6)], u6)) rfl ?_
  refine x_callV [.int (nI 6)] rfl cv_R_count.1 lk_7_344 cv_R_count.2.1 cv_R_count.2.2.1 rfl cv_R_count.2.2.2.1 rfl rfl (Nat.le_of_ble_eq_true rfl) (by decide) cv_R_count.2.2.2.2 (m_count6 u6 T n b n' b' (hL.stay hQu6) hto) ?_
  rintro r u7 ⟨hr, hqu7⟩
  rw [hr]
  clear hr r
  have hQu7 : QM S u7 := hQu6.tr hqu7
  refine run_ok 2 (c' := (24, [(0, .ref 48), (1, .long d6), (3, .int (nI 6))], [.long ((31 * d6) + ((nI (sha_ (vh (vo T 24)) 8)).toInt64))], u7)) rfl ?_
  obtain ⟨d7, e7⟩ : ∃ y : Int64, y = dg d6 (nI (sha_ (vh (vo T 24)) 8)) := ⟨_, rfl⟩
  refine x_topl (v' := d7) e7.symm ?_
  refine run_ok 5 (c' := (9, [(0, .ref 48), (1, .long d7), (3, .int (nI 7))], [.int (nI 8), .int (nI 7)], u7)) rfl ?_
  refine x_icmpN_ge 31 rfl rfl (by omega) (by omega) (fun hn => absurd hn (by decide)) (fun _ => ?_)
  refine run_ok 5 (c' := (19, [(0, .ref 48), (1, .long d7), (3, .int (nI 7))], [.int (nI 7), .ref 48, .long (31 * d7)], u7)) rfl ?_
  refine x_callV [.int (nI 7)] rfl cv_R_count.1 lk_7_344 cv_R_count.2.1 cv_R_count.2.2.1 rfl cv_R_count.2.2.2.1 rfl rfl (Nat.le_of_ble_eq_true rfl) (by decide) cv_R_count.2.2.2.2 (m_count7 u7 T n b n' b' (hL.stay hQu7) hto) ?_
  rintro r u8 ⟨hr, hqu8⟩
  rw [hr]
  clear hr r
  have hQu8 : QM S u8 := hQu7.tr hqu8
  refine x_top (v' := nI G.1) (hg.stay hQu7).1 ?_
  refine run_ok 2 (c' := (24, [(0, .ref 48), (1, .long d7), (3, .int (nI 7))], [.long ((31 * d7) + ((nI G.1).toInt64))], u8)) rfl ?_
  obtain ⟨d8, e8⟩ : ∃ y : Int64, y = dg d7 (nI G.1) := ⟨_, rfl⟩
  refine x_topl (v' := d8) e8.symm ?_
  refine run_ok 5 (c' := (9, [(0, .ref 48), (1, .long d8), (3, .int (nI 8))], [.int (nI 8), .int (nI 8)], u8)) rfl ?_
  refine x_icmpN_ge 31 rfl rfl (by omega) (by omega) (fun _ => ?_) (fun hn => absurd hn (by decide))
  refine run_ok 5 (c' := (38, [(0, .ref 48), (1, .long d8), (3, .int (nI 8))], [.int (nI 0), .ref 48, .long (31 * d8)], u8)) rfl ?_
  refine x_callV [.int (nI 0)] rfl cv_R_faultOf.1 lk_7_150 cv_R_faultOf.2.1 cv_R_faultOf.2.2.1 rfl cv_R_faultOf.2.2.2.1 rfl rfl (Nat.le_of_ble_eq_true rfl) (by decide) cv_R_faultOf.2.2.2.2 (m_faultOf0 u8 n b n' b' (hL.stay hQu8).1.1 (hL.stay hQu8).1.2 (hL.stay hQu8).2.1.1 (hL.stay hQu8).2.1.2) ?_
  rintro r u9 ⟨hr, hRu9, a2, a3, a4⟩
  rw [hr]
  clear hr r
  have hQu9 : QM S u9 := hQu8.tr (QM.of a2 a3 a4 (by decide) (by decide))
  clear a2 a3 a4
  refine run_ok 2 (c' := (43, [(0, .ref 48), (1, .long d8), (3, .int (nI 8))], [.long ((31 * d8) + ((spv (flt (okh b) 4 n)).toInt64))], u9)) rfl ?_
  obtain ⟨d9, e9⟩ : ∃ y : Int64, y = dg d8 (spv (flt (okh b) 4 n)) := ⟨_, rfl⟩
  refine x_topl (v' := d9) e9.symm ?_
  refine run_ok 6 (c' := (51, [(0, .ref 48), (1, .long d9), (3, .int (nI 8))], [.int (nI 1), .ref 48, .long (31 * d9)], u9)) rfl ?_
  refine x_callV [.int (nI 1)] rfl cv_R_faultOf.1 lk_7_150 cv_R_faultOf.2.1 cv_R_faultOf.2.2.1 rfl cv_R_faultOf.2.2.2.1 rfl rfl (Nat.le_of_ble_eq_true rfl) (by decide) cv_R_faultOf.2.2.2.2 (m_faultOf1 u9 n b n' b' (hL.stay hQu9).1.1 (hL.stay hQu9).1.2 (hL.stay hQu9).2.1.1 (hL.stay hQu9).2.1.2) ?_
  rintro r u10 ⟨hr, hRu10, a2, a3, a4⟩
  rw [hr]
  clear hr r
  have hQu10 : QM S u10 := hQu9.tr (QM.of a2 a3 a4 (by decide) (by decide))
  clear a2 a3 a4
  refine run_ok 2 (c' := (56, [(0, .ref 48), (1, .long d9), (3, .int (nI 8))], [.long ((31 * d9) + ((spv (flt (okb b') 5 n')).toInt64))], u10)) rfl ?_
  obtain ⟨d10, e10⟩ : ∃ y : Int64, y = dg d9 (spv (flt (okb b') 5 n')) := ⟨_, rfl⟩
  refine x_topl (v' := d10) e10.symm ?_
  refine run_ok 3 (c' := (59, [(0, .ref 48), (1, .long d10), (3, .int (nI 0))], [], u10)) rfl ?_
  have q := H1 d10 (by subst e10 e9 e8 e7 e6 e5 e4 e3 e2 e1; rfl) 0 (Nat.zero_le _) u10 hQu10 (BT.of hL hRu10)
  rw [dfd_0] at q
  exact q


/-! digests of a week, a boat, a person -/
def dg (h : Int64) (x : Int32) : Int64 := 31 * h + x.toInt64
def dgw (T : TD) (h : Int64) (k w : Nat) : Int64 := dg (dg (dg (dg h (nI (vis (vo T (w + 1)) k))) (nmv (vnm (vo T (w + 1)) k))) (nI (vgr (vo T (w + 1)) k))) (nI (vho (vo T (w + 1)) k))
theorem dg_neg (h : Int64) {n : Nat} (hn : n < 1000) : 31 * h - (-(nI n)).toInt64 = dg h (nI n) := by
  have h1 : (-(nI n)).toInt64 = -((nI n).toInt64) := by
    apply Int64.toInt_inj.mp
    have e1 : ((-(nI n)).toInt64).toInt = (-(nI n)).toInt := Int32.toInt_toInt64 _
    have e2 : ((nI n).toInt64) = lN n := nI_l (by omega)
    rw [e1, sb_negT (by omega), e2]
    have e3 : (-(lN n)).toInt = -(n : Int) := Int64.toInt_neg_ofNat_of_le (by omega)
    rw [e3]
  unfold dg
  rw [h1]
  apply Int64.toBitVec_inj.mp
  simp
set_option maxHeartbeats 2000000 in
theorem c_digestWeek (S : ST) (T : TD) (hT : TR 5 T S) (hto : tok T) (h : Int64) (k w : Nat) (hk : k < tnb T) (hw : w < 24) : EX me_N_digestWeek 6 [.ref 0, .long h, .int (nI k), .int (nI w)] S (fun r u => r = some (.long (dgw T h k w)) ∧ fr CQ S u ∧ u.2.1 = S.2.1) := by
  refine EX.of mok_N_digestWeek (Nat.le_of_ble_eq_true rfl) ?_
  have f0 : fr CQ S S := fr.rf
  have w0 : S.2.1 = S.2.1 := rfl
  refine run_ok 6 (c' := (9, [(0, .ref 0), (1, .long h), (3, .int (nI k)), (4, .int (nI w)), (5, .long h), (7, .int (nI 0))], [.int (nI 4), .int (nI 0)], S)) rfl ?_
  refine x_icmpN_ge 37 rfl rfl (by omega) (by omega) (fun hn => absurd hn (by decide)) (fun _ => ?_)
  refine run_ok 7 (c' := (24, [(0, .ref 0), (1, .long h), (3, .int (nI k)), (4, .int (nI w)), (5, .long h), (7, .int (nI 0))], [.int (nI 0), .int (nI k), .int (nI w), .ref 0, .long (31 * h)], S)) rfl ?_
  refine x_callV [.int (nI w), .int (nI k), .int (nI 0)] rfl cv_N_at.1 lk_6_344 cv_N_at.2.1 cv_N_at.2.2.1 rfl cv_N_at.2.2.2.1 rfl rfl (Nat.le_of_ble_eq_true rfl) (by decide) cv_N_at.2.2.2.2 (c_at_ok0S S T (hT.keep f0 (by decide)) hto w k hw hk) ?_
  rintro r u1 ⟨hr, g1, s1⟩
  rw [hr]
  clear hr r
  have f1 : fr CQ S u1 := f0.tr g1
  have w1 : u1.2.1 = S.2.1 := s1.trans w0
  refine run_ok 2 (c' := (29, [(0, .ref 0), (1, .long h), (3, .int (nI k)), (4, .int (nI w)), (5, .long h), (7, .int (nI 0))], [.long ((31 * h) + ((nI (vis (vo T (w + 1)) k)).toInt64))], u1)) rfl ?_
  obtain ⟨d1, e1⟩ : ∃ y : Int64, y = dg h (nI (vis (vo T (w + 1)) k)) := ⟨_, rfl⟩
  refine x_topl (v' := d1) e1.symm ?_
  refine run_ok 5 (c' := (9, [(0, .ref 0), (1, .long h), (3, .int (nI k)), (4, .int (nI w)), (5, .long d1), (7, .int (nI 1))], [.int (nI 4), .int (nI 1)], u1)) rfl ?_
  refine x_icmpN_ge 37 rfl rfl (by omega) (by omega) (fun hn => absurd hn (by decide)) (fun _ => ?_)
  refine run_ok 7 (c' := (24, [(0, .ref 0), (1, .long h), (3, .int (nI k)), (4, .int (nI w)), (5, .long d1), (7, .int (nI 1))], [.int (nI 1), .int (nI k), .int (nI w), .ref 0, .long (31 * d1)], u1)) rfl ?_
  refine x_callV [.int (nI w), .int (nI k), .int (nI 1)] rfl cv_N_at.1 lk_6_344 cv_N_at.2.1 cv_N_at.2.2.1 rfl cv_N_at.2.2.2.1 rfl rfl (Nat.le_of_ble_eq_true rfl) (by decide) cv_N_at.2.2.2.2 (c_at_ok1S u1 T (hT.keep f1 (by decide)) hto w k hw hk) ?_
  rintro r u2 ⟨hr, g2, s2⟩
  rw [hr]
  clear hr r
  have f2 : fr CQ S u2 := f1.tr g2
  have w2 : u2.2.1 = S.2.1 := s2.trans w1
  refine run_ok 2 (c' := (29, [(0, .ref 0), (1, .long h), (3, .int (nI k)), (4, .int (nI w)), (5, .long d1), (7, .int (nI 1))], [.long ((31 * d1) + ((nmv (vnm (vo T (w + 1)) k)).toInt64))], u2)) rfl ?_
  obtain ⟨d2, e2⟩ : ∃ y : Int64, y = dg d1 (nmv (vnm (vo T (w + 1)) k)) := ⟨_, rfl⟩
  refine x_topl (v' := d2) e2.symm ?_
  refine run_ok 5 (c' := (9, [(0, .ref 0), (1, .long h), (3, .int (nI k)), (4, .int (nI w)), (5, .long d2), (7, .int (nI 2))], [.int (nI 4), .int (nI 2)], u2)) rfl ?_
  refine x_icmpN_ge 37 rfl rfl (by omega) (by omega) (fun hn => absurd hn (by decide)) (fun _ => ?_)
  refine run_ok 7 (c' := (24, [(0, .ref 0), (1, .long h), (3, .int (nI k)), (4, .int (nI w)), (5, .long d2), (7, .int (nI 2))], [.int (nI 2), .int (nI k), .int (nI w), .ref 0, .long (31 * d2)], u2)) rfl ?_
  refine x_callV [.int (nI w), .int (nI k), .int (nI 2)] rfl cv_N_at.1 lk_6_344 cv_N_at.2.1 cv_N_at.2.2.1 rfl cv_N_at.2.2.2.1 rfl rfl (Nat.le_of_ble_eq_true rfl) (by decide) cv_N_at.2.2.2.2 (c_at_ok2S u2 T (hT.keep f2 (by decide)) hto w k hw hk) ?_
  rintro r u3 ⟨hr, g3, s3⟩
  rw [hr]
  clear hr r
  have f3 : fr CQ S u3 := f2.tr g3
  have w3 : u3.2.1 = S.2.1 := s3.trans w2
  refine run_ok 2 (c' := (29, [(0, .ref 0), (1, .long h), (3, .int (nI k)), (4, .int (nI w)), (5, .long d2), (7, .int (nI 2))], [.long ((31 * d2) + ((nI (vgr (vo T (w + 1)) k)).toInt64))], u3)) rfl ?_
  obtain ⟨d3, e3⟩ : ∃ y : Int64, y = dg d2 (nI (vgr (vo T (w + 1)) k)) := ⟨_, rfl⟩
  refine x_topl (v' := d3) e3.symm ?_
  refine run_ok 5 (c' := (9, [(0, .ref 0), (1, .long h), (3, .int (nI k)), (4, .int (nI w)), (5, .long d3), (7, .int (nI 3))], [.int (nI 4), .int (nI 3)], u3)) rfl ?_
  refine x_icmpN_ge 37 rfl rfl (by omega) (by omega) (fun hn => absurd hn (by decide)) (fun _ => ?_)
  refine run_ok 7 (c' := (24, [(0, .ref 0), (1, .long h), (3, .int (nI k)), (4, .int (nI w)), (5, .long d3), (7, .int (nI 3))], [.int (nI 3), .int (nI k), .int (nI w), .ref 0, .long (31 * d3)], u3)) rfl ?_
  refine x_callV [.int (nI w), .int (nI k), .int (nI 3)] rfl cv_N_at.1 lk_6_344 cv_N_at.2.1 cv_N_at.2.2.1 rfl cv_N_at.2.2.2.1 rfl rfl (Nat.le_of_ble_eq_true rfl) (by decide) cv_N_at.2.2.2.2 (c_at_ok3S u3 T (hT.keep f3 (by decide)) hto w k hw hk) ?_
  rintro r u4 ⟨hr, g4, s4⟩
  rw [hr]
  clear hr r
  have f4 : fr CQ S u4 := f3.tr g4
  have w4 : u4.2.1 = S.2.1 := s4.trans w3
  refine run_ok 2 (c' := (29, [(0, .ref 0), (1, .long h), (3, .int (nI k)), (4, .int (nI w)), (5, .long d3), (7, .int (nI 3))], [.long ((31 * d3) + ((nI (vho (vo T (w + 1)) k)).toInt64))], u4)) rfl ?_
  obtain ⟨d4, e4⟩ : ∃ y : Int64, y = dg d3 (nI (vho (vo T (w + 1)) k)) := ⟨_, rfl⟩
  refine x_topl (v' := d4) e4.symm ?_
  refine run_ok 5 (c' := (9, [(0, .ref 0), (1, .long h), (3, .int (nI k)), (4, .int (nI w)), (5, .long d4), (7, .int (nI 4))], [.int (nI 4), .int (nI 4)], u4)) rfl ?_
  refine x_icmpN_ge 37 rfl rfl (by omega) (by omega) (fun _ => ?_) (fun hn => absurd hn (by decide))
  refine run_ok 1 (c' := (39, [(0, .ref 0), (1, .long h), (3, .int (nI k)), (4, .int (nI w)), (5, .long d4), (7, .int (nI 4))], [.long d4], u4)) rfl ?_
  refine x_ret (r := some (.long d4)) rfl rfl trivial ?_ rfl
  subst e1
  subst e2
  subst e3
  subst e4
  exact ⟨rfl, f4, w4⟩

def dgp (T : TD) (G : SD) (h : Int64) (p : Nat) : Int64 := dg (dg (dg (dg (dg h (nI (cnt (fun k => decide (vnm (vo T 24) k = p ∧ (0 = 1 → vis (vo T 24) k = 2))) (tnb T)))) (nI (cnt (fun k => decide (vnm (vo T 24) k = p ∧ (1 = 1 → vis (vo T 24) k = 2))) (tnb T)))) (nI (vh (vo T 24) (8 * p + ((p + 1) % 8))))) (nI (bst (fun i => fitb (wh T (upn (th T) (8 * p + (p + 1) % 8) i)) (vo (wh T (upn (th T) (8 * p + (p + 1) % 8) i)) 24) G G.1) 10))) (whv (wta T (bst (fun i => fitb (wh T (upn (th T) (8 * p + (p + 1) % 8) i)) (vo (wh T (upn (th T) (8 * p + (p + 1) % 8) i)) 24) G G.1) 10) (fun i => nro (nmb (wh T (upn (th T) (8 * p + (p + 1) % 8) i)) (vo (wh T (upn (th T) (8 * p + (p + 1) % 8) i)) 24) 23) (tnb T)) 24).1)
set_option maxHeartbeats 2000000 in
theorem c_digestPerson (S : ST) (T : TD) (hT : TR 5 T S) (hto : tok T) (hne : tne T ≤ 8) (G : SD) (hg : SR G S) (hgo : sok G) (h : Int64) (p : Nat) (hp : p < 8) : EX me_N_digestPerson 7 [.ref 0, .long h, .int (nI p)] S (fun r u => r = some (.long (dgp T G h p)) ∧ fr CQ S u) := by
  refine EX.of mok_N_digestPerson (Nat.le_of_ble_eq_true rfl) ?_
  have f0 : fr CQ S S := fr.rf
  refine run_ok 3 (c' := (3, [(0, .ref 0), (1, .long h), (3, .int (nI p))], [.int ((nI p) + (nI 1))], S)) rfl ?_
  refine x_top (v' := nI (p + 1)) (nI_add _ _) ?_
  refine run_ok 1 (c' := (5, [(0, .ref 0), (1, .long h), (3, .int (nI p))], [.int (nI 8), .int (nI (p + 1))], S)) rfl ?_
  refine x_irem rfl (by decide) ?_
  refine x_top (v' := nI ((p + 1) % 8)) (pk_rem (by omega) (by omega) (by omega)) ?_
  refine run_ok 7 (c' := (16, [(0, .ref 0), (1, .long h), (3, .int (nI p)), (4, .int (nI ((p + 1) % 8)))], [.int (nI 0), .int (nI p), .ref 0, .long (31 * h)], S)) rfl ?_
  refine x_callV [.int (nI p), .int (nI 0)] rfl cv_N_named.1 lk_6_347 cv_N_named.2.1 cv_N_named.2.2.1 rfl cv_N_named.2.2.2.1 rfl rfl (Nat.le_of_ble_eq_true rfl) (by decide) cv_N_named.2.2.2.2 (c_named_ok0 S T (hT.keep f0 (by decide)) hto p hp) ?_
  rintro r u1 ⟨hr, g1⟩
  rw [hr]
  clear hr r
  have f1 : fr CQ S u1 := f0.tr g1
  refine run_ok 2 (c' := (21, [(0, .ref 0), (1, .long h), (3, .int (nI p)), (4, .int (nI ((p + 1) % 8)))], [.long ((31 * h) + ((nI (cnt (fun k => decide (vnm (vo T 24) k = p ∧ (0 = 1 → vis (vo T 24) k = 2))) (tnb T))).toInt64))], u1)) rfl ?_
  obtain ⟨d1, e1⟩ : ∃ y : Int64, y = dg h (nI (cnt (fun k => decide (vnm (vo T 24) k = p ∧ (0 = 1 → vis (vo T 24) k = 2))) (tnb T))) := ⟨_, rfl⟩
  refine x_topl (v' := d1) e1.symm ?_
  refine run_ok 7 (c' := (32, [(0, .ref 0), (1, .long h), (3, .int (nI p)), (4, .int (nI ((p + 1) % 8))), (5, .long d1)], [.int (nI 1), .int (nI p), .ref 0, .long (31 * d1)], u1)) rfl ?_
  refine x_callV [.int (nI p), .int (nI 1)] rfl cv_N_named.1 lk_6_347 cv_N_named.2.1 cv_N_named.2.2.1 rfl cv_N_named.2.2.2.1 rfl rfl (Nat.le_of_ble_eq_true rfl) (by decide) cv_N_named.2.2.2.2 (c_named_ok1 u1 T (hT.keep f1 (by decide)) hto p hp) ?_
  rintro r u2 ⟨hr, g2⟩
  rw [hr]
  clear hr r
  have f2 : fr CQ S u2 := f1.tr g2
  refine run_ok 2 (c' := (37, [(0, .ref 0), (1, .long h), (3, .int (nI p)), (4, .int (nI ((p + 1) % 8))), (5, .long d1)], [.long ((31 * d1) + ((nI (cnt (fun k => decide (vnm (vo T 24) k = p ∧ (1 = 1 → vis (vo T 24) k = 2))) (tnb T))).toInt64))], u2)) rfl ?_
  obtain ⟨d2, e2⟩ : ∃ y : Int64, y = dg d1 (nI (cnt (fun k => decide (vnm (vo T 24) k = p ∧ (1 = 1 → vis (vo T 24) k = 2))) (tnb T))) := ⟨_, rfl⟩
  refine x_topl (v' := d2) e2.symm ?_
  refine run_ok 8 (c' := (51, [(0, .ref 0), (1, .long h), (3, .int (nI p)), (4, .int (nI ((p + 1) % 8))), (5, .long d2)], [.int (nI ((p + 1) % 8)), .int (nI p), .int (nI 23), .ref 0, .long (31 * d2)], u2)) rfl ?_
  refine x_callV [.int (nI 23), .int (nI p), .int (nI ((p + 1) % 8))] rfl cv_N_hates.1 lk_6_350 cv_N_hates.2.1 cv_N_hates.2.2.1 rfl cv_N_hates.2.2.2.1 rfl rfl (Nat.le_of_ble_eq_true rfl) (by decide) cv_N_hates.2.2.2.2 (c_hates_ok u2 T (hT.keep f2 (by decide)) hto 23 p ((p + 1) % 8) (by omega) hp (by omega) (by omega)) ?_
  rintro r u3 ⟨hr, g3⟩
  rw [hr]
  clear hr r
  have f3 : fr CQ S u3 := f2.tr g3
  refine run_ok 2 (c' := (56, [(0, .ref 0), (1, .long h), (3, .int (nI p)), (4, .int (nI ((p + 1) % 8))), (5, .long d2)], [.long ((31 * d2) + ((nI (vh (vo T 24) (8 * p + ((p + 1) % 8)))).toInt64))], u3)) rfl ?_
  obtain ⟨d3, e3⟩ : ∃ y : Int64, y = dg d2 (nI (vh (vo T 24) (8 * p + ((p + 1) % 8)))) := ⟨_, rfl⟩
  refine x_topl (v' := d3) e3.symm ?_
  refine run_ok 4 (c' := (62, [(0, .ref 0), (1, .long h), (3, .int (nI p)), (4, .int (nI ((p + 1) % 8))), (5, .long d3)], [.int (nI ((p + 1) % 8)), .int (nI p), .ref 0], u3)) rfl ?_
  refine x_callV [.int (nI p), .int (nI ((p + 1) % 8))] rfl cv_N_seekHated.1 lk_6_229 cv_N_seekHated.2.1 cv_N_seekHated.2.2.1 rfl cv_N_seekHated.2.2.2.1 rfl rfl (Nat.le_of_ble_eq_true rfl) (by decide) cv_N_seekHated.2.2.2.2 (c_seekHated u3 T (hT.keep f3 (by decide)) hto hne G (hg.keep f3 (by decide)) hgo p ((p + 1) % 8) hp (by omega)) ?_
  rintro r u4 ⟨hr, h47, g4⟩
  rw [hr]
  clear hr r
  have f4 : fr CQ S u4 := f3.tr g4
  refine run_ok 7 (c' := (77, [(0, .ref 0), (1, .long h), (3, .int (nI p)), (4, .int (nI ((p + 1) % 8))), (5, .long d3), (7, .int (nI (bst (fun i => fitb (wh T (upn (th T) (8 * p + (p + 1) % 8) i)) (vo (wh T (upn (th T) (8 * p + (p + 1) % 8) i)) 24) G G.1) 10)))], [.long ((31 * d3) + ((nI (bst (fun i => fitb (wh T (upn (th T) (8 * p + (p + 1) % 8) i)) (vo (wh T (upn (th T) (8 * p + (p + 1) % 8) i)) 24) G G.1) 10)).toInt64))], u4)) rfl ?_
  obtain ⟨d4, e4⟩ : ∃ y : Int64, y = dg d3 (nI (bst (fun i => fitb (wh T (upn (th T) (8 * p + (p + 1) % 8) i)) (vo (wh T (upn (th T) (8 * p + (p + 1) % 8) i)) 24) G G.1) 10)) := ⟨_, rfl⟩
  refine x_topl (v' := d4) e4.symm ?_
  refine run_ok 6 (c' := (88, [(0, .ref 0), (1, .long h), (3, .int (nI p)), (4, .int (nI ((p + 1) % 8))), (5, .long d4), (7, .int (nI (bst (fun i => fitb (wh T (upn (th T) (8 * p + (p + 1) % 8) i)) (vo (wh T (upn (th T) (8 * p + (p + 1) % 8) i)) 24) G G.1) 10)))], [.int (nI (bst (fun i => fitb (wh T (upn (th T) (8 * p + (p + 1) % 8) i)) (vo (wh T (upn (th T) (8 * p + (p + 1) % 8) i)) 24) G G.1) 10)), .ref 0, .long (31 * d4)], u4)) rfl ?_
  refine x_callV [.int (nI (bst (fun i => fitb (wh T (upn (th T) (8 * p + (p + 1) % 8) i)) (vo (wh T (upn (th T) (8 * p + (p + 1) % 8) i)) 24) G G.1) 10))] rfl cv_N_weekToAsk.1 lk_6_232 cv_N_weekToAsk.2.1 cv_N_weekToAsk.2.2.1 rfl cv_N_weekToAsk.2.2.2.1 rfl rfl (Nat.le_of_ble_eq_true rfl) (by decide) cv_N_weekToAsk.2.2.2.2 (c_weekToAsk u4 T (hT.keep f4 (by decide)) hto (bst (fun i => fitb (wh T (upn (th T) (8 * p + (p + 1) % 8) i)) (vo (wh T (upn (th T) (8 * p + (p + 1) % 8) i)) 24) G G.1) 10) _ (bst_lt _ 10) h47) ?_
  rintro r u5 ⟨hr, g5⟩
  rw [hr]
  clear hr r
  have f5 : fr CQ S u5 := f4.tr g5
  refine run_ok 2 (c' := (93, [(0, .ref 0), (1, .long h), (3, .int (nI p)), (4, .int (nI ((p + 1) % 8))), (5, .long d4), (7, .int (nI (bst (fun i => fitb (wh T (upn (th T) (8 * p + (p + 1) % 8) i)) (vo (wh T (upn (th T) (8 * p + (p + 1) % 8) i)) 24) G G.1) 10)))], [.long ((31 * d4) + ((whv (wta T (bst (fun i => fitb (wh T (upn (th T) (8 * p + (p + 1) % 8) i)) (vo (wh T (upn (th T) (8 * p + (p + 1) % 8) i)) 24) G G.1) 10) (fun i => nro (nmb (wh T (upn (th T) (8 * p + (p + 1) % 8) i)) (vo (wh T (upn (th T) (8 * p + (p + 1) % 8) i)) 24) 23) (tnb T)) 24).1).toInt64))], u5)) rfl ?_
  obtain ⟨d5, e5⟩ : ∃ y : Int64, y = dg d4 (whv (wta T (bst (fun i => fitb (wh T (upn (th T) (8 * p + (p + 1) % 8) i)) (vo (wh T (upn (th T) (8 * p + (p + 1) % 8) i)) 24) G G.1) 10) (fun i => nro (nmb (wh T (upn (th T) (8 * p + (p + 1) % 8) i)) (vo (wh T (upn (th T) (8 * p + (p + 1) % 8) i)) 24) 23) (tnb T)) 24).1) := ⟨_, rfl⟩
  refine x_topl (v' := d5) e5.symm ?_
  refine x_ret (r := some (.long d5)) rfl rfl trivial ?_ rfl
  subst e1
  subst e2
  subst e3
  subst e4
  subst e5
  exact ⟨rfl, f5⟩

def dgb (T : TD) (G : SD) (F : Nat → Nat) (h : Int64) (k : Nat) : Int64 := 31 * (31 * (dg (dg (dg (dg (dg (dg (dg (dg (dgw T (dgw T (dgw T (dgw T (dg (dg (dg (dg h (nI (tso T k))) (nI (tbu T k))) (nI (tla T k))) (nI (tst T k))) k 0) k 7) k 15) k 23) (nI (lsn T 24 k))) (whv (wrg T k 8).1)) (nI (wrg T k 8).2)) (whv (pyf T k 24).1)) (nI (pyf T k 24).2)) (whv (waf T k 24).1)) (nI (waf T k 24).2)) (nI (bst (fun i => fitb (wso T (upn (tso T) k i)) (vo (wso T (upn (tso T) k i)) 24) G G.1) 3))) + lN (F k / 2 ^ hlv (F k) (4 * tne T) 0)) + lN (2 ^ (4 * tne T - hlv (F k) (4 * tne T) 0))
set_option maxHeartbeats 2000000 in
theorem c_digestBoat (S : ST) (T : TD) (hT : TR 5 T S) (hto : tok T) (hne : tne T ≤ 8) (G : SD) (hg : SR G S) (hgo : sok G) (F : Nat → Nat) (hF : sl (tnb T) F S) (h : Int64) (k : Nat) (hk : k < tnb T) (hFk : F k < 2 ^ 50) : EX me_N_digestBoat 7 [.ref 0, .long h, .int (nI k)] S (fun r u => r = some (.long (dgb T G F h k)) ∧ fr CQ S u ∧ u.2.1 = S.2.1) := by
  refine EX.of mok_N_digestBoat (Nat.le_of_ble_eq_true rfl) ?_
  obtain ⟨n8, n9, hbt, het, hht, hlo⟩ := id hto
  obtain ⟨t1, t2, t3, t4, t5, t6, t7, t8, t9, t10, t11⟩ := id hT
  have f0 : fr CQ S S := fr.rf
  have w0 : S.2.1 = S.2.1 := rfl
  have qa := waf_le n8 k 24 (by omega)
  refine run_ok 6 (c' := (9, [(0, .ref 0), (1, .long h), (3, .int (nI k)), (4, .long h), (6, .int (nI 0))], [.int (nI 4), .int (nI 0)], S)) rfl ?_
  refine x_icmpN_ge 35 rfl rfl (by omega) (by omega) (fun hn => absurd hn (by decide)) (fun _ => ?_)
  refine run_ok 6 (c' := (22, [(0, .ref 0), (1, .long h), (3, .int (nI k)), (4, .long h), (6, .int (nI 0))], [.int (nI 0), .int (nI k), .ref 0, .long (31 * h)], S)) rfl ?_
  refine x_callV [.int (nI k), .int (nI 0)] rfl cv_N_boat.1 lk_6_331 cv_N_boat.2.1 cv_N_boat.2.2.1 rfl cv_N_boat.2.2.2.1 rfl rfl (Nat.le_of_ble_eq_true rfl) (by decide) cv_N_boat.2.2.2.2 (c_boat_ok0 S T hT hto k hk) ?_
  rintro r x ⟨hr, hu⟩
  rw [hr, hu]
  clear hr hu r x
  refine run_ok 2 (c' := (27, [(0, .ref 0), (1, .long h), (3, .int (nI k)), (4, .long h), (6, .int (nI 0))], [.long ((31 * h) + ((nI (tso T k)).toInt64))], S)) rfl ?_
  obtain ⟨d1, e1⟩ : ∃ y : Int64, y = dg h (nI (tso T k)) := ⟨_, rfl⟩
  refine x_topl (v' := d1) e1.symm ?_
  refine run_ok 5 (c' := (9, [(0, .ref 0), (1, .long h), (3, .int (nI k)), (4, .long d1), (6, .int (nI 1))], [.int (nI 4), .int (nI 1)], S)) rfl ?_
  refine x_icmpN_ge 35 rfl rfl (by omega) (by omega) (fun hn => absurd hn (by decide)) (fun _ => ?_)
  refine run_ok 6 (c' := (22, [(0, .ref 0), (1, .long h), (3, .int (nI k)), (4, .long d1), (6, .int (nI 1))], [.int (nI 1), .int (nI k), .ref 0, .long (31 * d1)], S)) rfl ?_
  refine x_callV [.int (nI k), .int (nI 1)] rfl cv_N_boat.1 lk_6_331 cv_N_boat.2.1 cv_N_boat.2.2.1 rfl cv_N_boat.2.2.2.1 rfl rfl (Nat.le_of_ble_eq_true rfl) (by decide) cv_N_boat.2.2.2.2 (c_boat_ok1 S T hT hto k hk) ?_
  rintro r x ⟨hr, hu⟩
  rw [hr, hu]
  clear hr hu r x
  refine run_ok 2 (c' := (27, [(0, .ref 0), (1, .long h), (3, .int (nI k)), (4, .long d1), (6, .int (nI 1))], [.long ((31 * d1) + ((nI (tbu T k)).toInt64))], S)) rfl ?_
  obtain ⟨d2, e2⟩ : ∃ y : Int64, y = dg d1 (nI (tbu T k)) := ⟨_, rfl⟩
  refine x_topl (v' := d2) e2.symm ?_
  refine run_ok 5 (c' := (9, [(0, .ref 0), (1, .long h), (3, .int (nI k)), (4, .long d2), (6, .int (nI 2))], [.int (nI 4), .int (nI 2)], S)) rfl ?_
  refine x_icmpN_ge 35 rfl rfl (by omega) (by omega) (fun hn => absurd hn (by decide)) (fun _ => ?_)
  refine run_ok 6 (c' := (22, [(0, .ref 0), (1, .long h), (3, .int (nI k)), (4, .long d2), (6, .int (nI 2))], [.int (nI 2), .int (nI k), .ref 0, .long (31 * d2)], S)) rfl ?_
  refine x_callV [.int (nI k), .int (nI 2)] rfl cv_N_boat.1 lk_6_331 cv_N_boat.2.1 cv_N_boat.2.2.1 rfl cv_N_boat.2.2.2.1 rfl rfl (Nat.le_of_ble_eq_true rfl) (by decide) cv_N_boat.2.2.2.2 (c_boat_ok2 S T hT hto k hk) ?_
  rintro r x ⟨hr, hu⟩
  rw [hr, hu]
  clear hr hu r x
  refine run_ok 2 (c' := (27, [(0, .ref 0), (1, .long h), (3, .int (nI k)), (4, .long d2), (6, .int (nI 2))], [.long ((31 * d2) + ((nI (tla T k)).toInt64))], S)) rfl ?_
  obtain ⟨d3, e3⟩ : ∃ y : Int64, y = dg d2 (nI (tla T k)) := ⟨_, rfl⟩
  refine x_topl (v' := d3) e3.symm ?_
  refine run_ok 5 (c' := (9, [(0, .ref 0), (1, .long h), (3, .int (nI k)), (4, .long d3), (6, .int (nI 3))], [.int (nI 4), .int (nI 3)], S)) rfl ?_
  refine x_icmpN_ge 35 rfl rfl (by omega) (by omega) (fun hn => absurd hn (by decide)) (fun _ => ?_)
  refine run_ok 6 (c' := (22, [(0, .ref 0), (1, .long h), (3, .int (nI k)), (4, .long d3), (6, .int (nI 3))], [.int (nI 3), .int (nI k), .ref 0, .long (31 * d3)], S)) rfl ?_
  refine x_callV [.int (nI k), .int (nI 3)] rfl cv_N_boat.1 lk_6_331 cv_N_boat.2.1 cv_N_boat.2.2.1 rfl cv_N_boat.2.2.2.1 rfl rfl (Nat.le_of_ble_eq_true rfl) (by decide) cv_N_boat.2.2.2.2 (c_boat_ok3 S T hT hto k hk) ?_
  rintro r x ⟨hr, hu⟩
  rw [hr, hu]
  clear hr hu r x
  refine run_ok 2 (c' := (27, [(0, .ref 0), (1, .long h), (3, .int (nI k)), (4, .long d3), (6, .int (nI 3))], [.long ((31 * d3) + ((nI (tst T k)).toInt64))], S)) rfl ?_
  obtain ⟨d4, e4⟩ : ∃ y : Int64, y = dg d3 (nI (tst T k)) := ⟨_, rfl⟩
  refine x_topl (v' := d4) e4.symm ?_
  refine run_ok 5 (c' := (9, [(0, .ref 0), (1, .long h), (3, .int (nI k)), (4, .long d4), (6, .int (nI 4))], [.int (nI 4), .int (nI 4)], S)) rfl ?_
  refine x_icmpN_ge 35 rfl rfl (by omega) (by omega) (fun _ => ?_) (fun hn => absurd hn (by decide))
  refine run_ok 4 (c' := (40, [(0, .ref 0), (1, .long h), (3, .int (nI k)), (4, .long d4), (6, .int (nI 4))], [.int (nI 0), .int (nI k), .long d4, .ref 0], S)) rfl ?_
  refine x_callV [.long d4, .int (nI k), .int (nI 0)] rfl cv_N_digestWeek.1 lk_6_334 cv_N_digestWeek.2.1 cv_N_digestWeek.2.2.1 rfl cv_N_digestWeek.2.2.2.1 rfl rfl (Nat.le_of_ble_eq_true rfl) (by decide) cv_N_digestWeek.2.2.2.2 (c_digestWeek S T (hT.keep f0 (by decide)) hto d4 k 0 hk (by decide)) ?_
  rintro r u1 ⟨hr, g1, s1⟩
  rw [hr]
  clear hr r
  have f1 : fr CQ S u1 := f0.tr g1
  have w1 : u1.2.1 = S.2.1 := s1.trans w0
  obtain ⟨d5, e5⟩ : ∃ y : Int64, y = dgw T d4 k 0 := ⟨_, rfl⟩
  refine x_topl (v' := d5) e5.symm ?_
  refine run_ok 5 (c' := (51, [(0, .ref 0), (1, .long h), (3, .int (nI k)), (4, .long d5), (6, .int (nI 4))], [.int (nI 7), .int (nI k), .long d5, .ref 0], u1)) rfl ?_
  refine x_callV [.long d5, .int (nI k), .int (nI 7)] rfl cv_N_digestWeek.1 lk_6_334 cv_N_digestWeek.2.1 cv_N_digestWeek.2.2.1 rfl cv_N_digestWeek.2.2.2.1 rfl rfl (Nat.le_of_ble_eq_true rfl) (by decide) cv_N_digestWeek.2.2.2.2 (c_digestWeek u1 T (hT.keep f1 (by decide)) hto d5 k 7 hk (by decide)) ?_
  rintro r u2 ⟨hr, g2, s2⟩
  rw [hr]
  clear hr r
  have f2 : fr CQ S u2 := f1.tr g2
  have w2 : u2.2.1 = S.2.1 := s2.trans w1
  obtain ⟨d6, e6⟩ : ∃ y : Int64, y = dgw T d5 k 7 := ⟨_, rfl⟩
  refine x_topl (v' := d6) e6.symm ?_
  refine run_ok 5 (c' := (62, [(0, .ref 0), (1, .long h), (3, .int (nI k)), (4, .long d6), (6, .int (nI 4))], [.int (nI 15), .int (nI k), .long d6, .ref 0], u2)) rfl ?_
  refine x_callV [.long d6, .int (nI k), .int (nI 15)] rfl cv_N_digestWeek.1 lk_6_334 cv_N_digestWeek.2.1 cv_N_digestWeek.2.2.1 rfl cv_N_digestWeek.2.2.2.1 rfl rfl (Nat.le_of_ble_eq_true rfl) (by decide) cv_N_digestWeek.2.2.2.2 (c_digestWeek u2 T (hT.keep f2 (by decide)) hto d6 k 15 hk (by decide)) ?_
  rintro r u3 ⟨hr, g3, s3⟩
  rw [hr]
  clear hr r
  have f3 : fr CQ S u3 := f2.tr g3
  have w3 : u3.2.1 = S.2.1 := s3.trans w2
  obtain ⟨d7, e7⟩ : ∃ y : Int64, y = dgw T d6 k 15 := ⟨_, rfl⟩
  refine x_topl (v' := d7) e7.symm ?_
  refine run_ok 5 (c' := (73, [(0, .ref 0), (1, .long h), (3, .int (nI k)), (4, .long d7), (6, .int (nI 4))], [.int (nI 23), .int (nI k), .long d7, .ref 0], u3)) rfl ?_
  refine x_callV [.long d7, .int (nI k), .int (nI 23)] rfl cv_N_digestWeek.1 lk_6_334 cv_N_digestWeek.2.1 cv_N_digestWeek.2.2.1 rfl cv_N_digestWeek.2.2.2.1 rfl rfl (Nat.le_of_ble_eq_true rfl) (by decide) cv_N_digestWeek.2.2.2.2 (c_digestWeek u3 T (hT.keep f3 (by decide)) hto d7 k 23 hk (by decide)) ?_
  rintro r u4 ⟨hr, g4, s4⟩
  rw [hr]
  clear hr r
  have f4 : fr CQ S u4 := f3.tr g4
  have w4 : u4.2.1 = S.2.1 := s4.trans w3
  obtain ⟨d8, e8⟩ : ∃ y : Int64, y = dgw T d7 k 23 := ⟨_, rfl⟩
  refine x_topl (v' := d8) e8.symm ?_
  refine run_ok 6 (c' := (86, [(0, .ref 0), (1, .long h), (3, .int (nI k)), (4, .long d8), (6, .int (nI 4))], [.int (nI k), .ref 0, .long (31 * d8)], u4)) rfl ?_
  refine x_callV [.int (nI k)] rfl cv_N_longs.1 lk_6_338 cv_N_longs.2.1 cv_N_longs.2.2.1 rfl cv_N_longs.2.2.2.1 rfl rfl (Nat.le_of_ble_eq_true rfl) (by decide) cv_N_longs.2.2.2.2 (c_longs_okS u4 T (hT.keep f4 (by decide)) hto k hk) ?_
  rintro r u5 ⟨hr, g5, s5⟩
  rw [hr]
  clear hr r
  have f5 : fr CQ S u5 := f4.tr g5
  have w5 : u5.2.1 = S.2.1 := s5.trans w4
  refine run_ok 2 (c' := (91, [(0, .ref 0), (1, .long h), (3, .int (nI k)), (4, .long d8), (6, .int (nI 4))], [.long ((31 * d8) + ((nI (lsn T 24 k)).toInt64))], u5)) rfl ?_
  obtain ⟨d9, e9⟩ : ∃ y : Int64, y = dg d8 (nI (lsn T 24 k)) := ⟨_, rfl⟩
  refine x_topl (v' := d9) e9.symm ?_
  refine run_ok 3 (c' := (95, [(0, .ref 0), (1, .long h), (3, .int (nI k)), (4, .long d9), (6, .int (nI 4))], [.int (nI k), .ref 0], u5)) rfl ?_
  refine x_callV [.int (nI k)] rfl cv_N_seekWrong.1 lk_6_193 cv_N_seekWrong.2.1 cv_N_seekWrong.2.2.1 rfl cv_N_seekWrong.2.2.2.1 rfl rfl (Nat.le_of_ble_eq_true rfl) (by decide) cv_N_seekWrong.2.2.2.2 (c_seekWrongS u5 T (hT.keep f5 (by decide)) hto hne k hk) ?_
  rintro r u6 ⟨hr, b6, g6, s6⟩
  rw [hr]
  clear hr r
  have f6 : fr CQ S u6 := f5.tr g6
  have w6 : u6.2.1 = S.2.1 := s6.trans w5
  have p6 := b6.1
  have q6 := b6.2
  refine run_ok 6 (c' := (111, [(0, .ref 0), (1, .long h), (3, .int (nI k)), (4, .long d9), (6, .int (nI 4))], [.int (u6.1 36 0), .long (31 * d9)], u6)) rfl ?_
  refine x_top (v' := whv (wrg T k 8).1) p6 ?_
  refine run_ok 2 (c' := (113, [(0, .ref 0), (1, .long h), (3, .int (nI k)), (4, .long d9), (6, .int (nI 4))], [.long ((31 * d9) + ((whv (wrg T k 8).1).toInt64))], u6)) rfl ?_
  obtain ⟨d10, e10⟩ : ∃ y : Int64, y = dg d9 (whv (wrg T k 8).1) := ⟨_, rfl⟩
  refine x_topl (v' := d10) e10.symm ?_
  refine run_ok 7 (c' := (128, [(0, .ref 0), (1, .long h), (3, .int (nI k)), (4, .long d10), (6, .int (nI 4))], [.int (u6.1 36 1), .long (31 * d10)], u6)) rfl ?_
  refine x_top (v' := nI ((wrg T k 8).2)) q6 ?_
  refine run_ok 2 (c' := (130, [(0, .ref 0), (1, .long h), (3, .int (nI k)), (4, .long d10), (6, .int (nI 4))], [.long ((31 * d10) + ((nI ((wrg T k 8).2)).toInt64))], u6)) rfl ?_
  obtain ⟨d11, e11⟩ : ∃ y : Int64, y = dg d10 (nI ((wrg T k 8).2)) := ⟨_, rfl⟩
  refine x_topl (v' := d11) e11.symm ?_
  refine run_ok 3 (c' := (134, [(0, .ref 0), (1, .long h), (3, .int (nI k)), (4, .long d11), (6, .int (nI 4))], [.int (nI k), .ref 0], u6)) rfl ?_
  refine x_callV [.int (nI k)] rfl cv_N_seekPay.1 lk_6_199 cv_N_seekPay.2.1 cv_N_seekPay.2.2.1 rfl cv_N_seekPay.2.2.2.1 rfl rfl (Nat.le_of_ble_eq_true rfl) (by decide) cv_N_seekPay.2.2.2.2 (c_seekPayS u6 T (hT.keep f6 (by decide)) hto hne k hk) ?_
  rintro r u7 ⟨hr, b7, g7, s7⟩
  rw [hr]
  clear hr r
  have f7 : fr CQ S u7 := f6.tr g7
  have w7 : u7.2.1 = S.2.1 := s7.trans w6
  have p7 := b7.1
  have q7 := b7.2
  refine run_ok 6 (c' := (150, [(0, .ref 0), (1, .long h), (3, .int (nI k)), (4, .long d11), (6, .int (nI 4))], [.int (u7.1 36 0), .long (31 * d11)], u7)) rfl ?_
  refine x_top (v' := whv (pyf T k 24).1) p7 ?_
  refine run_ok 2 (c' := (152, [(0, .ref 0), (1, .long h), (3, .int (nI k)), (4, .long d11), (6, .int (nI 4))], [.long ((31 * d11) + ((whv (pyf T k 24).1).toInt64))], u7)) rfl ?_
  obtain ⟨d12, e12⟩ : ∃ y : Int64, y = dg d11 (whv (pyf T k 24).1) := ⟨_, rfl⟩
  refine x_topl (v' := d12) e12.symm ?_
  refine run_ok 7 (c' := (167, [(0, .ref 0), (1, .long h), (3, .int (nI k)), (4, .long d12), (6, .int (nI 4))], [.int (u7.1 36 1), .long (31 * d12)], u7)) rfl ?_
  refine x_top (v' := nI ((pyf T k 24).2)) q7 ?_
  refine run_ok 2 (c' := (169, [(0, .ref 0), (1, .long h), (3, .int (nI k)), (4, .long d12), (6, .int (nI 4))], [.long ((31 * d12) + ((nI ((pyf T k 24).2)).toInt64))], u7)) rfl ?_
  obtain ⟨d13, e13⟩ : ∃ y : Int64, y = dg d12 (nI ((pyf T k 24).2)) := ⟨_, rfl⟩
  refine x_topl (v' := d13) e13.symm ?_
  refine run_ok 3 (c' := (173, [(0, .ref 0), (1, .long h), (3, .int (nI k)), (4, .long d13), (6, .int (nI 4))], [.int (nI k), .ref 0], u7)) rfl ?_
  refine x_callV [.int (nI k)] rfl cv_N_seekWait.1 lk_6_202 cv_N_seekWait.2.1 cv_N_seekWait.2.2.1 rfl cv_N_seekWait.2.2.2.1 rfl rfl (Nat.le_of_ble_eq_true rfl) (by decide) cv_N_seekWait.2.2.2.2 (c_seekWaitS u7 T (hT.keep f7 (by decide)) hto hne k hk) ?_
  rintro r u8 ⟨hr, b8, g8, s8⟩
  rw [hr]
  clear hr r
  have f8 : fr CQ S u8 := f7.tr g8
  have w8 : u8.2.1 = S.2.1 := s8.trans w7
  have p8 := b8.1
  have q8 := b8.2
  refine run_ok 6 (c' := (189, [(0, .ref 0), (1, .long h), (3, .int (nI k)), (4, .long d13), (6, .int (nI 4))], [.int (u8.1 36 0), .long (31 * d13)], u8)) rfl ?_
  refine x_top (v' := whv (waf T k 24).1) p8 ?_
  refine run_ok 2 (c' := (191, [(0, .ref 0), (1, .long h), (3, .int (nI k)), (4, .long d13), (6, .int (nI 4))], [.long ((31 * d13) + ((whv (waf T k 24).1).toInt64))], u8)) rfl ?_
  obtain ⟨d14, e14⟩ : ∃ y : Int64, y = dg d13 (whv (waf T k 24).1) := ⟨_, rfl⟩
  refine x_topl (v' := d14) e14.symm ?_
  refine run_ok 7 (c' := (206, [(0, .ref 0), (1, .long h), (3, .int (nI k)), (4, .long d14), (6, .int (nI 4))], [.int (u8.1 36 1), .long (31 * d14)], u8)) rfl ?_
  refine x_top (v' := -(nI (waf T k 24).2)) q8 ?_
  refine run_ok 2 (c' := (208, [(0, .ref 0), (1, .long h), (3, .int (nI k)), (4, .long d14), (6, .int (nI 4))], [.long ((31 * d14) - ((-(nI (waf T k 24).2)).toInt64))], u8)) rfl ?_
  obtain ⟨d15, e15⟩ : ∃ y : Int64, y = dg d14 (nI (waf T k 24).2) := ⟨_, rfl⟩
  refine x_topl (v' := d15) ((dg_neg _ (by omega)).trans e15.symm) ?_
  refine run_ok 6 (c' := (218, [(0, .ref 0), (1, .long h), (3, .int (nI k)), (4, .long d15), (6, .int (nI 4))], [.int (nI k), .ref 0, .long (31 * d15)], u8)) rfl ?_
  refine x_callV [.int (nI k)] rfl cv_N_sort.1 lk_6_341 cv_N_sort.2.1 cv_N_sort.2.2.1 rfl cv_N_sort.2.2.2.1 rfl rfl (Nat.le_of_ble_eq_true rfl) (by decide) cv_N_sort.2.2.2.2 (c_sort_okS u8 T (hT.keep f8 (by decide)) hto hne G (hg.keep f8 (by decide)) hgo k hk) ?_
  rintro r u9 ⟨hr, g9, s9⟩
  rw [hr]
  clear hr r
  have f9 : fr CQ S u9 := f8.tr g9
  have w9 : u9.2.1 = S.2.1 := s9.trans w8
  refine run_ok 2 (c' := (223, [(0, .ref 0), (1, .long h), (3, .int (nI k)), (4, .long d15), (6, .int (nI 4))], [.long ((31 * d15) + ((nI (bst (fun i => fitb (wso T (upn (tso T) k i)) (vo (wso T (upn (tso T) k i)) 24) G G.1) 3)).toInt64))], u9)) rfl ?_
  obtain ⟨d16, e16⟩ : ∃ y : Int64, y = dg d15 (nI (bst (fun i => fitb (wso T (upn (tso T) k i)) (vo (wso T (upn (tso T) k i)) 24) G G.1) 3)) := ⟨_, rfl⟩
  refine x_topl (v' := d16) e16.symm ?_
  refine run_ok 6 (c' := (233, [(0, .ref 0), (1, .long h), (3, .int (nI k)), (4, .long d16), (6, .int (nI 4))], [.int (nI k), .ref 0, .long (31 * d16)], u9)) rfl ?_
  refine x_callV [.int (nI k)] rfl cv_N_chanceAbove.1 lk_6_242 cv_N_chanceAbove.2.1 cv_N_chanceAbove.2.2.1 rfl cv_N_chanceAbove.2.2.2.1 rfl rfl (Nat.le_of_ble_eq_true rfl) (by decide) cv_N_chanceAbove.2.2.2.2 (c_above u9 T (by rw [f9 5 (by decide)]; exact t10) hne n8 F k hk (fun j hj => by rw [w9]; exact hF j hj) hFk) ?_
  rintro r x ⟨hr, hu⟩
  rw [hr, hu]
  clear hr hu r x
  refine run_ok 1 (c' := (237, [(0, .ref 0), (1, .long h), (3, .int (nI k)), (4, .long d16), (6, .int (nI 4))], [.long ((31 * d16) + (lN (F k / 2 ^ hlv (F k) (4 * tne T) 0)))], u9)) rfl ?_
  obtain ⟨d17, e17⟩ : ∃ y : Int64, y = 31 * d16 + lN (F k / 2 ^ hlv (F k) (4 * tne T) 0) := ⟨_, rfl⟩
  refine x_topl (v' := d17) e17.symm ?_
  refine run_ok 6 (c' := (247, [(0, .ref 0), (1, .long h), (3, .int (nI k)), (4, .long d17), (6, .int (nI 4))], [.int (nI k), .ref 0, .long (31 * d17)], u9)) rfl ?_
  refine x_callV [.int (nI k)] rfl cv_N_chanceBelow.1 lk_6_246 cv_N_chanceBelow.2.1 cv_N_chanceBelow.2.2.1 rfl cv_N_chanceBelow.2.2.2.1 rfl rfl (Nat.le_of_ble_eq_true rfl) (by decide) cv_N_chanceBelow.2.2.2.2 (c_below u9 T (by rw [f9 5 (by decide)]; exact t10) hne n8 F k hk (fun j hj => by rw [w9]; exact hF j hj) hFk) ?_
  rintro r x ⟨hr, hu⟩
  rw [hr, hu]
  clear hr hu r x
  refine run_ok 1 (c' := (251, [(0, .ref 0), (1, .long h), (3, .int (nI k)), (4, .long d17), (6, .int (nI 4))], [.long ((31 * d17) + (lN (2 ^ (4 * tne T - hlv (F k) (4 * tne T) 0))))], u9)) rfl ?_
  obtain ⟨d18, e18⟩ : ∃ y : Int64, y = 31 * d17 + lN (2 ^ (4 * tne T - hlv (F k) (4 * tne T) 0)) := ⟨_, rfl⟩
  refine x_topl (v' := d18) e18.symm ?_
  refine x_ret (r := some (.long d18)) rfl rfl trivial ?_ rfl
  subst e1
  subst e2
  subst e3
  subst e4
  subst e5
  subst e6
  subst e7
  subst e8
  subst e9
  subst e10
  subst e11
  subst e12
  subst e13
  subst e14
  subst e15
  subst e16
  subst e17
  subst e18
  exact ⟨rfl, f9, w9⟩


/-! the digest of the class -/
def dfd (g : Int64 → Nat → Int64) (h : Int64) : Nat → Int64
  | 0 => h
  | n + 1 => g (dfd g h n) n
theorem dfd_0 (g : Int64 → Nat → Int64) (h : Int64) : dfd g h 0 = h := rfl
def chF (T : TD) (j : Nat) : Nat := chs T 5 j (2 ^ tne T)
def dfn (T : TD) (G : SD) (h : Int64) : Int64 := (dg (dg (dg (dg (dg (dg (dg (dg (dg h (fwv (vfw (vo T 24)))) (nmv (vfb (vo T 24)))) (nI (bst (fun p => decide ((wst (vh (vo T 24)) p 8).1 = 8)) 8))) (whv (bmx (fun p => shs (vh (vo T 24)) p 8) 8).1)) (spa T none)) (spa T (some 0))) (nI (bst (fun i => fitb (wlo T (2 ^ i)) (vo (wlo T (2 ^ i)) 24) G G.1) (tne T)))) (nI (cnt (fun k => decide (vis (vo (dec T 7 6) 24) k = 2)) (tnb T)))) (nI (cnt (fun k => decide (vis (vo (dec T 7 6) 24) k = 1)) (tnb T))))
def dga (T : TD) (G : SD) (h : Int64) : Int64 := dfn T G (dfd (fun h w => dg h (nI (cnt (fun k => decide (vis (vo T (w + 1)) k = 1)) (tnb T)))) (dfd (dgp T G) (dfd (dgb T G (chF T)) h (tnb T)) 8) 24)
def dig (T : TD) (G : SD) (x0 x2 x3 x7 f0 f1 : Int32) : Int64 := dga T G (dg (dg (dg (dg (dg (dg (dg (dg (dg (dg 17 x0) (nI (tnb T))) x2) x3) (nI (tne T))) (nI (cnt (fun k => decide (vis (vo T 24) k = 2)) (tnb T)))) (nI (sha_ (vh (vo T 24)) 8))) x7) f0) f1)
set_option maxHeartbeats 2000000 in
theorem c_digest (S : ST) (T : TD) (hT : TR 5 T S) (hto : tok T) (hne : tne T ≤ 8) (G : SD) (hg : SR G S) (hgo : sok G) : EX me_N_digest 8 [.ref 0] S (fun r u => r = some (.long (dig T G (S.1 5 1) (S.1 1 1) (S.1 3 1) (S.1 32 3) (S.1 1 2) (S.1 3 2))) ∧ fr CQ S u) := by
  refine EX.of mok_N_digest (Nat.le_of_ble_eq_true rfl) ?_
  obtain ⟨n8, n9, hbt, het, hht, hlo⟩ := id hto
  obtain ⟨t1, t2, t3, t4, t5, t6, t7, t8, t9, t10, t11⟩ := id hT
  have H4 : ∀ (h : Int64) (u0 : ST), fr CQ S u0 → dig T G (S.1 5 1) (S.1 1 1) (S.1 3 1) (S.1 32 3) (S.1 1 2) (S.1 3 2) = dfn T G h → BX me_N_digest 8 none (fun r u => r = some (.long (dig T G (S.1 5 1) (S.1 1 1) (S.1 3 1) (S.1 32 3) (S.1 1 2) (S.1 3 2))) ∧ fr CQ S u) (136, [(0, .ref 0), (1, .long h)], [], u0) := by
    intro h u0 f0 hd
    refine run_ok 5 (c' := (143, [(0, .ref 0), (1, .long h)], [.int (nI 0), .ref 0, .long (31 * h)], u0)) rfl ?_
    refine x_callV [.int (nI 0)] rfl cv_N_first.1 lk_6_313 cv_N_first.2.1 cv_N_first.2.2.1 rfl cv_N_first.2.2.2.1 rfl rfl (Nat.le_of_ble_eq_true rfl) (by decide) cv_N_first.2.2.2.2 (c_first_ok0 u0 T (hT.keep f0 (by decide)) hto) ?_
    rintro r u1 ⟨hr, g1⟩
    rw [hr]
    clear hr r
    have f1 : fr CQ S u1 := f0.tr g1
    refine run_ok 2 (c' := (148, [(0, .ref 0), (1, .long h)], [.long ((31 * h) + ((fwv (vfw (vo T 24))).toInt64))], u1)) rfl ?_
    obtain ⟨d1, e1⟩ : ∃ y : Int64, y = dg h (fwv (vfw (vo T 24))) := ⟨_, rfl⟩
    refine x_topl (v' := d1) e1.symm ?_
    refine run_ok 6 (c' := (156, [(0, .ref 0), (1, .long d1)], [.int (nI 1), .ref 0, .long (31 * d1)], u1)) rfl ?_
    refine x_callV [.int (nI 1)] rfl cv_N_first.1 lk_6_313 cv_N_first.2.1 cv_N_first.2.2.1 rfl cv_N_first.2.2.2.1 rfl rfl (Nat.le_of_ble_eq_true rfl) (by decide) cv_N_first.2.2.2.2 (c_first_ok1 u1 T (hT.keep f1 (by decide)) hto) ?_
    rintro r u2 ⟨hr, g2⟩
    rw [hr]
    clear hr r
    have f2 : fr CQ S u2 := f1.tr g2
    refine run_ok 2 (c' := (161, [(0, .ref 0), (1, .long d1)], [.long ((31 * d1) + ((nmv (vfb (vo T 24))).toInt64))], u2)) rfl ?_
    obtain ⟨d2, e2⟩ : ∃ y : Int64, y = dg d1 (nmv (vfb (vo T 24))) := ⟨_, rfl⟩
    refine x_topl (v' := d2) e2.symm ?_
    refine run_ok 5 (c' := (168, [(0, .ref 0), (1, .long d2)], [.ref 0, .long (31 * d2)], u2)) rfl ?_
    refine x_callV [] rfl cv_N_loved.1 lk_6_316 cv_N_loved.2.1 cv_N_loved.2.2.1 rfl cv_N_loved.2.2.2.1 rfl rfl (Nat.le_of_ble_eq_true rfl) (by decide) cv_N_loved.2.2.2.2 (c_loved u2 T (hT.keep f2 (by decide)) hto) ?_
    rintro r u3 ⟨hr, g3⟩
    rw [hr]
    clear hr r
    have f3 : fr CQ S u3 := f2.tr g3
    refine run_ok 2 (c' := (173, [(0, .ref 0), (1, .long d2)], [.long ((31 * d2) + ((nI (bst (fun p => decide ((wst (vh (vo T 24)) p 8).1 = 8)) 8)).toInt64))], u3)) rfl ?_
    obtain ⟨d3, e3⟩ : ∃ y : Int64, y = dg d2 (nI (bst (fun p => decide ((wst (vh (vo T 24)) p 8).1 = 8)) 8)) := ⟨_, rfl⟩
    refine x_topl (v' := d3) e3.symm ?_
    refine run_ok 5 (c' := (180, [(0, .ref 0), (1, .long d3)], [.ref 0, .long (31 * d3)], u3)) rfl ?_
    refine x_callV [] rfl cv_N_bitter.1 lk_6_319 cv_N_bitter.2.1 cv_N_bitter.2.2.1 rfl cv_N_bitter.2.2.2.1 rfl rfl (Nat.le_of_ble_eq_true rfl) (by decide) cv_N_bitter.2.2.2.2 (c_bitter u3 T (hT.keep f3 (by decide)) hto) ?_
    rintro r u4 ⟨hr, g4⟩
    rw [hr]
    clear hr r
    have f4 : fr CQ S u4 := f3.tr g4
    refine run_ok 2 (c' := (185, [(0, .ref 0), (1, .long d3)], [.long ((31 * d3) + ((whv (bmx (fun p => shs (vh (vo T 24)) p 8) 8).1).toInt64))], u4)) rfl ?_
    obtain ⟨d4, e4⟩ : ∃ y : Int64, y = dg d3 (whv (bmx (fun p => shs (vh (vo T 24)) p 8) 8).1) := ⟨_, rfl⟩
    refine x_topl (v' := d4) e4.symm ?_
    refine run_ok 6 (c' := (193, [(0, .ref 0), (1, .long d4)], [.int (-1), .ref 0, .long (31 * d4)], u4)) rfl ?_
    refine x_callV [.int (-1)] rfl cv_N_spare.1 lk_6_322 cv_N_spare.2.1 cv_N_spare.2.2.1 rfl cv_N_spare.2.2.2.1 rfl rfl (Nat.le_of_ble_eq_true rfl) (by decide) cv_N_spare.2.2.2.2 (c_spare_n u4 T (hT.keep f4 (by decide)) hto hne) ?_
    rintro r u5 ⟨hr, g5⟩
    rw [hr]
    clear hr r
    have f5 : fr CQ S u5 := f4.tr g5
    refine run_ok 2 (c' := (198, [(0, .ref 0), (1, .long d4)], [.long ((31 * d4) + ((spa T none).toInt64))], u5)) rfl ?_
    obtain ⟨d5, e5⟩ : ∃ y : Int64, y = dg d4 (spa T none) := ⟨_, rfl⟩
    refine x_topl (v' := d5) e5.symm ?_
    refine run_ok 6 (c' := (206, [(0, .ref 0), (1, .long d5)], [.int (nI 0), .ref 0, .long (31 * d5)], u5)) rfl ?_
    refine x_callV [.int (nI 0)] rfl cv_N_spare.1 lk_6_322 cv_N_spare.2.1 cv_N_spare.2.2.1 rfl cv_N_spare.2.2.2.1 rfl rfl (Nat.le_of_ble_eq_true rfl) (by decide) cv_N_spare.2.2.2.2 (c_spare_0 u5 T (hT.keep f5 (by decide)) hto hne) ?_
    rintro r u6 ⟨hr, g6⟩
    rw [hr]
    clear hr r
    have f6 : fr CQ S u6 := f5.tr g6
    refine run_ok 2 (c' := (211, [(0, .ref 0), (1, .long d5)], [.long ((31 * d5) + ((spa T (some 0)).toInt64))], u6)) rfl ?_
    obtain ⟨d6, e6⟩ : ∃ y : Int64, y = dg d5 (spa T (some 0)) := ⟨_, rfl⟩
    refine x_topl (v' := d6) e6.symm ?_
    refine run_ok 5 (c' := (218, [(0, .ref 0), (1, .long d6)], [.ref 0, .long (31 * d6)], u6)) rfl ?_
    refine x_callV [] rfl cv_N_never.1 lk_6_325 cv_N_never.2.1 cv_N_never.2.2.1 rfl cv_N_never.2.2.2.1 rfl rfl (Nat.le_of_ble_eq_true rfl) (by decide) cv_N_never.2.2.2.2 (c_never u6 T (hT.keep f6 (by decide)) hto hne G (hg.keep f6 (by decide)) hgo) ?_
    rintro r u7 ⟨hr, g7⟩
    rw [hr]
    clear hr r
    have f7 : fr CQ S u7 := f6.tr g7
    refine run_ok 2 (c' := (223, [(0, .ref 0), (1, .long d6)], [.long ((31 * d6) + ((nI (bst (fun i => fitb (wlo T (2 ^ i)) (vo (wlo T (2 ^ i)) 24) G G.1) (tne T))).toInt64))], u7)) rfl ?_
    obtain ⟨d7, e7⟩ : ∃ y : Int64, y = dg d6 (nI (bst (fun i => fitb (wlo T (2 ^ i)) (vo (wlo T (2 ^ i)) 24) G G.1) (tne T))) := ⟨_, rfl⟩
    refine x_topl (v' := d7) e7.symm ?_
    refine run_ok 8 (c' := (235, [(0, .ref 0), (1, .long d7)], [.int (nI 0), .int (nI 6), .int (nI 7), .ref 0, .long (31 * d7)], u7)) rfl ?_
    refine x_callV [.int (nI 7), .int (nI 6), .int (nI 0)] rfl cv_N_decades.1 lk_6_328 cv_N_decades.2.1 cv_N_decades.2.2.1 rfl cv_N_decades.2.2.2.1 rfl rfl (Nat.le_of_ble_eq_true rfl) (by decide) cv_N_decades.2.2.2.2 (c_decades_ok0 u7 T (hT.keep f7 (by decide)) hto hne 7 6 (by decide)) ?_
    rintro r u8 ⟨hr, g8⟩
    rw [hr]
    clear hr r
    have f8 : fr CQ S u8 := f7.tr g8
    refine run_ok 2 (c' := (240, [(0, .ref 0), (1, .long d7)], [.long ((31 * d7) + ((nI (cnt (fun k => decide (vis (vo (dec T 7 6) 24) k = 2)) (tnb T))).toInt64))], u8)) rfl ?_
    obtain ⟨d8, e8⟩ : ∃ y : Int64, y = dg d7 (nI (cnt (fun k => decide (vis (vo (dec T 7 6) 24) k = 2)) (tnb T))) := ⟨_, rfl⟩
    refine x_topl (v' := d8) e8.symm ?_
    refine run_ok 8 (c' := (252, [(0, .ref 0), (1, .long d8)], [.int (nI 1), .int (nI 6), .int (nI 7), .ref 0, .long (31 * d8)], u8)) rfl ?_
    refine x_callV [.int (nI 7), .int (nI 6), .int (nI 1)] rfl cv_N_decades.1 lk_6_328 cv_N_decades.2.1 cv_N_decades.2.2.1 rfl cv_N_decades.2.2.2.1 rfl rfl (Nat.le_of_ble_eq_true rfl) (by decide) cv_N_decades.2.2.2.2 (c_decades_ok1 u8 T (hT.keep f8 (by decide)) hto hne 7 6 (by decide)) ?_
    rintro r u9 ⟨hr, g9⟩
    rw [hr]
    clear hr r
    have f9 : fr CQ S u9 := f8.tr g9
    refine run_ok 2 (c' := (257, [(0, .ref 0), (1, .long d8)], [.long ((31 * d8) + ((nI (cnt (fun k => decide (vis (vo (dec T 7 6) 24) k = 1)) (tnb T))).toInt64))], u9)) rfl ?_
    obtain ⟨d9, e9⟩ : ∃ y : Int64, y = dg d8 (nI (cnt (fun k => decide (vis (vo (dec T 7 6) 24) k = 1)) (tnb T))) := ⟨_, rfl⟩
    refine x_topl (v' := d9) e9.symm ?_
    refine x_ret (r := some (.long d9)) rfl rfl trivial ?_ rfl
    subst e1
    subst e2
    subst e3
    subst e4
    subst e5
    subst e6
    subst e7
    subst e8
    subst e9
    exact ⟨by rw [hd]; rfl, f9⟩
  have H3 : ∀ h : Int64, dig T G (S.1 5 1) (S.1 1 1) (S.1 3 1) (S.1 32 3) (S.1 1 2) (S.1 3 2) = dfn T G (dfd (fun h w => dg h (nI (cnt (fun k => decide (vis (vo T (w + 1)) k = 1)) (tnb T)))) h 24) → ∀ i, i ≤ 24 → ∀ v : ST, fr CQ S v → BX me_N_digest 8 none (fun r u => r = some (.long (dig T G (S.1 5 1) (S.1 1 1) (S.1 3 1) (S.1 32 3) (S.1 1 2) (S.1 3 2))) ∧ fr CQ S u) (111, [(0, .ref 0), (1, .long (dfd (fun h w => dg h (nI (cnt (fun k => decide (vis (vo T (w + 1)) k = 1)) (tnb T)))) h i)), (3, .int (nI i))], [], v) := by
    intro h hd
    refine loop_up (P := fun i => ∀ v : ST, fr CQ S v → BX me_N_digest 8 none (fun r u => r = some (.long (dig T G (S.1 5 1) (S.1 1 1) (S.1 3 1) (S.1 32 3) (S.1 1 2) (S.1 3 2))) ∧ fr CQ S u) (111, [(0, .ref 0), (1, .long (dfd (fun h w => dg h (nI (cnt (fun k => decide (vis (vo T (w + 1)) k = 1)) (tnb T)))) h i)), (3, .int (nI i))], [], v)) (24) ?_ ?_
    · intro v hf
      refine run_ok 2 (c' := (114, [(0, .ref 0), (1, .long (dfd (fun h w => dg h (nI (cnt (fun k => decide (vis (vo T (w + 1)) k = 1)) (tnb T)))) h 24)), (3, .int (nI 24))], [.int (nI 24), .int (nI 24)], v)) rfl ?_
      refine x_icmpN_ge 136 rfl rfl (by omega) (by omega) (fun h114 => ?_) (fun hn => absurd (Nat.le_refl _) hn)
      refine x_less [0, 1] rfl ?_
      exact H4 _ v hf hd
    · intro i hi ih v hf
      refine run_ok 2 (c' := (114, [(0, .ref 0), (1, .long (dfd (fun h w => dg h (nI (cnt (fun k => decide (vis (vo T (w + 1)) k = 1)) (tnb T)))) h i)), (3, .int (nI i))], [.int (nI 24), .int (nI i)], v)) rfl ?_
      refine x_icmpN_ge 136 rfl rfl (by omega) (by omega) (fun hn => absurd hn (show ¬ 24 ≤ i by omega)) (fun h114 => ?_)
      refine run_ok 5 (c' := (124, [(0, .ref 0), (1, .long (dfd (fun h w => dg h (nI (cnt (fun k => decide (vis (vo T (w + 1)) k = 1)) (tnb T)))) h i)), (3, .int (nI i))], [.int (nI i), .ref 0, .long (31 * (dfd (fun h w => dg h (nI (cnt (fun k => decide (vis (vo T (w + 1)) k = 1)) (tnb T)))) h i))], v)) rfl ?_
      refine x_callV [.int (nI i)] rfl cv_N_afloat.1 lk_6_310 cv_N_afloat.2.1 cv_N_afloat.2.2.1 rfl cv_N_afloat.2.2.2.1 rfl rfl (Nat.le_of_ble_eq_true rfl) (by decide) cv_N_afloat.2.2.2.2 (c_afloat_ok v T (hT.keep hf (by decide)) hto i hi) ?_
      rintro r z ⟨hr, hfz⟩
      rw [hr]
      clear hr r
      refine run_ok 2 (c' := (129, [(0, .ref 0), (1, .long (dfd (fun h w => dg h (nI (cnt (fun k => decide (vis (vo T (w + 1)) k = 1)) (tnb T)))) h i)), (3, .int (nI i))], [.long ((31 * (dfd (fun h w => dg h (nI (cnt (fun k => decide (vis (vo T (w + 1)) k = 1)) (tnb T)))) h i)) + ((nI (cnt (fun k => decide (vis (vo T (i + 1)) k = 1)) (tnb T))).toInt64))], z)) rfl ?_
      refine x_topl (v' := dfd (fun h w => dg h (nI (cnt (fun k => decide (vis (vo T (w + 1)) k = 1)) (tnb T)))) h (i + 1)) rfl ?_
      refine run_ok 2 (c' := (133, [(0, .ref 0), (1, .long (dfd (fun h w => dg h (nI (cnt (fun k => decide (vis (vo T (w + 1)) k = 1)) (tnb T)))) h (i + 1))), (3, .int (nI i + nI 1))], [], z)) rfl ?_
      rw [nI_add i 1]
      refine run_ok 1 (c' := (111, [(0, .ref 0), (1, .long (dfd (fun h w => dg h (nI (cnt (fun k => decide (vis (vo T (w + 1)) k = 1)) (tnb T)))) h (i + 1))), (3, .int (nI (i + 1)))], [], z)) rfl ?_
      exact ih z (hf.tr hfz)
  have H2 : ∀ h : Int64, dig T G (S.1 5 1) (S.1 1 1) (S.1 3 1) (S.1 32 3) (S.1 1 2) (S.1 3 2) = dfn T G (dfd (fun h w => dg h (nI (cnt (fun k => decide (vis (vo T (w + 1)) k = 1)) (tnb T)))) (dfd (dgp T G) h 8) 24) → ∀ i, i ≤ 8 → ∀ v : ST, fr CQ S v → BX me_N_digest 8 none (fun r u => r = some (.long (dig T G (S.1 5 1) (S.1 1 1) (S.1 3 1) (S.1 32 3) (S.1 1 2) (S.1 3 2))) ∧ fr CQ S u) (90, [(0, .ref 0), (1, .long (dfd (dgp T G) h i)), (3, .int (nI i))], [], v) := by
    intro h hd
    refine loop_up (P := fun i => ∀ v : ST, fr CQ S v → BX me_N_digest 8 none (fun r u => r = some (.long (dig T G (S.1 5 1) (S.1 1 1) (S.1 3 1) (S.1 32 3) (S.1 1 2) (S.1 3 2))) ∧ fr CQ S u) (90, [(0, .ref 0), (1, .long (dfd (dgp T G) h i)), (3, .int (nI i))], [], v)) (8) ?_ ?_
    · intro v hf
      refine run_ok 2 (c' := (93, [(0, .ref 0), (1, .long (dfd (dgp T G) h 8)), (3, .int (nI 8))], [.int (nI 8), .int (nI 8)], v)) rfl ?_
      refine x_icmpN_ge 109 rfl rfl (by omega) (by omega) (fun h93 => ?_) (fun hn => absurd (Nat.le_refl _) hn)
      refine run_ok 2 (c' := (111, [(0, .ref 0), (1, .long (dfd (dgp T G) h 8)), (3, .int (nI 0))], [], v)) rfl ?_
      have q := H3 (dfd (dgp T G) h 8) hd 0 (by omega) v hf
      rw [dfd_0] at q
      exact q
    · intro i hi ih v hf
      refine run_ok 2 (c' := (93, [(0, .ref 0), (1, .long (dfd (dgp T G) h i)), (3, .int (nI i))], [.int (nI 8), .int (nI i)], v)) rfl ?_
      refine x_icmpN_ge 109 rfl rfl (by omega) (by omega) (fun hn => absurd hn (show ¬ 8 ≤ i by omega)) (fun h93 => ?_)
      refine run_ok 3 (c' := (99, [(0, .ref 0), (1, .long (dfd (dgp T G) h i)), (3, .int (nI i))], [.int (nI i), .long (dfd (dgp T G) h i), .ref 0], v)) rfl ?_
      refine x_callV [.long (dfd (dgp T G) h i), .int (nI i)] rfl cv_N_digestPerson.1 lk_6_307 cv_N_digestPerson.2.1 cv_N_digestPerson.2.2.1 rfl cv_N_digestPerson.2.2.2.1 rfl rfl (Nat.le_of_ble_eq_true rfl) (by decide) cv_N_digestPerson.2.2.2.2 (c_digestPerson v T (hT.keep hf (by decide)) hto hne G (hg.keep hf (by decide)) hgo (dfd (dgp T G) h i) i hi) ?_
      rintro r z ⟨hr, hfz⟩
      rw [hr]
      clear hr r
      refine x_topl (v' := dfd (dgp T G) h (i + 1)) rfl ?_
      refine run_ok 2 (c' := (106, [(0, .ref 0), (1, .long (dfd (dgp T G) h (i + 1))), (3, .int (nI i + nI 1))], [], z)) rfl ?_
      rw [nI_add i 1]
      refine run_ok 1 (c' := (90, [(0, .ref 0), (1, .long (dfd (dgp T G) h (i + 1))), (3, .int (nI (i + 1)))], [], z)) rfl ?_
      exact ih z (hf.tr hfz)
  have H1 : ∀ h : Int64, dig T G (S.1 5 1) (S.1 1 1) (S.1 3 1) (S.1 32 3) (S.1 1 2) (S.1 3 2) = dfn T G (dfd (fun h w => dg h (nI (cnt (fun k => decide (vis (vo T (w + 1)) k = 1)) (tnb T)))) (dfd (dgp T G) (dfd (dgb T G (chF T)) h (tnb T)) 8) 24) → ∀ i, i ≤ tnb T → ∀ v : ST, fr CQ S v → sl (tnb T) (chF T) v → BX me_N_digest 8 none (fun r u => r = some (.long (dig T G (S.1 5 1) (S.1 1 1) (S.1 3 1) (S.1 32 3) (S.1 1 2) (S.1 3 2))) ∧ fr CQ S u) (64, [(0, .ref 0), (1, .long (dfd (dgb T G (chF T)) h i)), (3, .int (nI i))], [], v) := by
    intro h hd
    refine loop_up (P := fun i => ∀ v : ST, fr CQ S v → sl (tnb T) (chF T) v → BX me_N_digest 8 none (fun r u => r = some (.long (dig T G (S.1 5 1) (S.1 1 1) (S.1 3 1) (S.1 32 3) (S.1 1 2) (S.1 3 2))) ∧ fr CQ S u) (64, [(0, .ref 0), (1, .long (dfd (dgb T G (chF T)) h i)), (3, .int (nI i))], [], v)) (tnb T) ?_ ?_
    · intro v hf hs
      have t9v : v.1 5 6 = nI (tnb T) := by rw [hf 5 (by decide)]; exact t9
      refine run_ok 4 (c' := (72, [(0, .ref 0), (1, .long (dfd (dgb T G (chF T)) h (tnb T))), (3, .int (nI (tnb T)))], [.int (v.1 5 6), .int (nI (tnb T))], v)) rfl ?_
      refine x_top (v' := nI (tnb T)) t9v ?_
      refine x_icmpN_ge 88 rfl rfl (by omega) (by omega) (fun h72 => ?_) (fun hn => absurd (Nat.le_refl _) hn)
      refine run_ok 2 (c' := (90, [(0, .ref 0), (1, .long (dfd (dgb T G (chF T)) h (tnb T))), (3, .int (nI 0))], [], v)) rfl ?_
      have q := H2 (dfd (dgb T G (chF T)) h (tnb T)) hd 0 (by omega) v hf
      rw [dfd_0] at q
      exact q
    · intro i hi ih v hf hs
      have t9v : v.1 5 6 = nI (tnb T) := by rw [hf 5 (by decide)]; exact t9
      have p8 : 2 ^ tne T ≤ 2 ^ 8 := Nat.pow_le_pow_right (by decide) hne
      refine run_ok 4 (c' := (72, [(0, .ref 0), (1, .long (dfd (dgb T G (chF T)) h i)), (3, .int (nI i))], [.int (v.1 5 6), .int (nI i)], v)) rfl ?_
      refine x_top (v' := nI (tnb T)) t9v ?_
      refine x_icmpN_ge 88 rfl rfl (by omega) (by omega) (fun hn => absurd hn (show ¬ tnb T ≤ i by omega)) (fun h72 => ?_)
      refine run_ok 3 (c' := (78, [(0, .ref 0), (1, .long (dfd (dgb T G (chF T)) h i)), (3, .int (nI i))], [.int (nI i), .long (dfd (dgb T G (chF T)) h i), .ref 0], v)) rfl ?_
      refine x_callV [.long (dfd (dgb T G (chF T)) h i), .int (nI i)] rfl cv_N_digestBoat.1 lk_6_303 cv_N_digestBoat.2.1 cv_N_digestBoat.2.2.1 rfl cv_N_digestBoat.2.2.2.1 rfl rfl (Nat.le_of_ble_eq_true rfl) (by decide) cv_N_digestBoat.2.2.2.2 (c_digestBoat v T (hT.keep hf (by decide)) hto hne G (hg.keep hf (by decide)) hgo (chF T) hs (dfd (dgb T G (chF T)) h i) i hi (by have := chs_le T (c := 5) (by decide) i hne (2 ^ tne T); show chs T 5 i (2 ^ tne T) < 2 ^ 50; omega)) ?_
      rintro r z ⟨hr, hfz, h2z⟩
      rw [hr]
      clear hr r
      refine x_topl (v' := dfd (dgb T G (chF T)) h (i + 1)) rfl ?_
      refine run_ok 2 (c' := (85, [(0, .ref 0), (1, .long (dfd (dgb T G (chF T)) h (i + 1))), (3, .int (nI i + nI 1))], [], z)) rfl ?_
      rw [nI_add i 1]
      refine run_ok 1 (c' := (64, [(0, .ref 0), (1, .long (dfd (dgb T G (chF T)) h (i + 1))), (3, .int (nI (i + 1)))], [], z)) rfl ?_
      exact ih z (hf.tr hfz) (fun j hj => by rw [h2z]; exact hs j hj)
  have f0 : fr CQ S S := fr.rf
  refine run_ok 6 (c' := (9, [(0, .ref 0), (1, .long 17), (3, .int (nI 0))], [.int (nI 8), .int (nI 0)], S)) rfl ?_
  refine x_icmpN_ge 31 rfl rfl (by omega) (by omega) (fun hn => absurd hn (by decide)) (fun _ => ?_)
  refine run_ok 5 (c' := (19, [(0, .ref 0), (1, .long 17), (3, .int (nI 0))], [.int (nI 0), .ref 0, .long (31 * 17)], S)) rfl ?_
  refine x_callV [.int (nI 0)] rfl cv_N_count.1 lk_6_298 cv_N_count.2.1 cv_N_count.2.2.1 rfl cv_N_count.2.2.2.1 rfl rfl (Nat.le_of_ble_eq_true rfl) (by decide) cv_N_count.2.2.2.2 (c_count0 S) ?_
  rintro r x ⟨hr, hu⟩
  rw [hr, hu]
  clear hr hu r x
  refine run_ok 2 (c' := (24, [(0, .ref 0), (1, .long 17), (3, .int (nI 0))], [.long ((31 * 17) + ((S.1 5 1).toInt64))], S)) rfl ?_
  obtain ⟨d1, e1⟩ : ∃ y : Int64, y = dg 17 (S.1 5 1) := ⟨_, rfl⟩
  refine x_topl (v' := d1) e1.symm ?_
  refine run_ok 5 (c' := (9, [(0, .ref 0), (1, .long d1), (3, .int (nI 1))], [.int (nI 8), .int (nI 1)], S)) rfl ?_
  refine x_icmpN_ge 31 rfl rfl (by omega) (by omega) (fun hn => absurd hn (by decide)) (fun _ => ?_)
  refine run_ok 5 (c' := (19, [(0, .ref 0), (1, .long d1), (3, .int (nI 1))], [.int (nI 1), .ref 0, .long (31 * d1)], S)) rfl ?_
  refine x_callV [.int (nI 1)] rfl cv_N_count.1 lk_6_298 cv_N_count.2.1 cv_N_count.2.2.1 rfl cv_N_count.2.2.2.1 rfl rfl (Nat.le_of_ble_eq_true rfl) (by decide) cv_N_count.2.2.2.2 (c_count1 S T (hT.keep f0 (by decide))) ?_
  rintro r x ⟨hr, hu⟩
  rw [hr, hu]
  clear hr hu r x
  refine run_ok 2 (c' := (24, [(0, .ref 0), (1, .long d1), (3, .int (nI 1))], [.long ((31 * d1) + ((nI (tnb T)).toInt64))], S)) rfl ?_
  obtain ⟨d2, e2⟩ : ∃ y : Int64, y = dg d1 (nI (tnb T)) := ⟨_, rfl⟩
  refine x_topl (v' := d2) e2.symm ?_
  refine run_ok 5 (c' := (9, [(0, .ref 0), (1, .long d2), (3, .int (nI 2))], [.int (nI 8), .int (nI 2)], S)) rfl ?_
  refine x_icmpN_ge 31 rfl rfl (by omega) (by omega) (fun hn => absurd hn (by decide)) (fun _ => ?_)
  refine run_ok 5 (c' := (19, [(0, .ref 0), (1, .long d2), (3, .int (nI 2))], [.int (nI 2), .ref 0, .long (31 * d2)], S)) rfl ?_
  refine x_callV [.int (nI 2)] rfl cv_N_count.1 lk_6_298 cv_N_count.2.1 cv_N_count.2.2.1 rfl cv_N_count.2.2.2.1 rfl rfl (Nat.le_of_ble_eq_true rfl) (by decide) cv_N_count.2.2.2.2 (c_count2 S) ?_
  rintro r x ⟨hr, hu⟩
  rw [hr, hu]
  clear hr hu r x
  refine run_ok 2 (c' := (24, [(0, .ref 0), (1, .long d2), (3, .int (nI 2))], [.long ((31 * d2) + ((S.1 1 1).toInt64))], S)) rfl ?_
  obtain ⟨d3, e3⟩ : ∃ y : Int64, y = dg d2 (S.1 1 1) := ⟨_, rfl⟩
  refine x_topl (v' := d3) e3.symm ?_
  refine run_ok 5 (c' := (9, [(0, .ref 0), (1, .long d3), (3, .int (nI 3))], [.int (nI 8), .int (nI 3)], S)) rfl ?_
  refine x_icmpN_ge 31 rfl rfl (by omega) (by omega) (fun hn => absurd hn (by decide)) (fun _ => ?_)
  refine run_ok 5 (c' := (19, [(0, .ref 0), (1, .long d3), (3, .int (nI 3))], [.int (nI 3), .ref 0, .long (31 * d3)], S)) rfl ?_
  refine x_callV [.int (nI 3)] rfl cv_N_count.1 lk_6_298 cv_N_count.2.1 cv_N_count.2.2.1 rfl cv_N_count.2.2.2.1 rfl rfl (Nat.le_of_ble_eq_true rfl) (by decide) cv_N_count.2.2.2.2 (c_count3 S) ?_
  rintro r x ⟨hr, hu⟩
  rw [hr, hu]
  clear hr hu r x
  refine run_ok 2 (c' := (24, [(0, .ref 0), (1, .long d3), (3, .int (nI 3))], [.long ((31 * d3) + ((S.1 3 1).toInt64))], S)) rfl ?_
  obtain ⟨d4, e4⟩ : ∃ y : Int64, y = dg d3 (S.1 3 1) := ⟨_, rfl⟩
  refine x_topl (v' := d4) e4.symm ?_
  refine run_ok 5 (c' := (9, [(0, .ref 0), (1, .long d4), (3, .int (nI 4))], [.int (nI 8), .int (nI 4)], S)) rfl ?_
  refine x_icmpN_ge 31 rfl rfl (by omega) (by omega) (fun hn => absurd hn (by decide)) (fun _ => ?_)
  refine run_ok 5 (c' := (19, [(0, .ref 0), (1, .long d4), (3, .int (nI 4))], [.int (nI 4), .ref 0, .long (31 * d4)], S)) rfl ?_
  refine x_callV [.int (nI 4)] rfl cv_N_count.1 lk_6_298 cv_N_count.2.1 cv_N_count.2.2.1 rfl cv_N_count.2.2.2.1 rfl rfl (Nat.le_of_ble_eq_true rfl) (by decide) cv_N_count.2.2.2.2 (c_count4 S T (hT.keep f0 (by decide))) ?_
  rintro r x ⟨hr, hu⟩
  rw [hr, hu]
  clear hr hu r x
  refine run_ok 2 (c' := (24, [(0, .ref 0), (1, .long d4), (3, .int (nI 4))], [.long ((31 * d4) + ((nI (tne T)).toInt64))], S)) rfl ?_
  obtain ⟨d5, e5⟩ : ∃ y : Int64, y = dg d4 (nI (tne T)) := ⟨_, rfl⟩
  refine x_topl (v' := d5) e5.symm ?_
  refine run_ok 5 (c' := (9, [(0, .ref 0), (1, .long d5), (3, .int (nI 5))], [.int (nI 8), .int (nI 5)], S)) rfl ?_
  refine x_icmpN_ge 31 rfl rfl (by omega) (by omega) (fun hn => absurd hn (by decide)) (fun _ => ?_)
  refine run_ok 5 (c' := (19, [(0, .ref 0), (1, .long d5), (3, .int (nI 5))], [.int (nI 5), .ref 0, .long (31 * d5)], S)) rfl ?_
  refine x_callV [.int (nI 5)] rfl cv_N_count.1 lk_6_298 cv_N_count.2.1 cv_N_count.2.2.1 rfl cv_N_count.2.2.2.1 rfl rfl (Nat.le_of_ble_eq_true rfl) (by decide) cv_N_count.2.2.2.2 (c_count5 S T (hT.keep f0 (by decide)) hto) ?_
  rintro r u1 ⟨hr, g1⟩
  rw [hr]
  clear hr r
  have f1 : fr CQ S u1 := f0.tr g1
  refine run_ok 2 (c' := (24, [(0, .ref 0), (1, .long d5), (3, .int (nI 5))], [.long ((31 * d5) + ((nI (cnt (fun k => decide (vis (vo T 24) k = 2)) (tnb T))).toInt64))], u1)) rfl ?_
  obtain ⟨d6, e6⟩ : ∃ y : Int64, y = dg d5 (nI (cnt (fun k => decide (vis (vo T 24) k = 2)) (tnb T))) := ⟨_, rfl⟩
  refine x_topl (v' := d6) e6.symm ?_
  refine run_ok 5 (c' := (9, [(0, .ref 0), (1, .long d6), (3, .int (nI 6))], [.int (nI 8), .int (nI 6)], u1)) rfl ?_
  refine x_icmpN_ge 31 rfl rfl (by omega) (by omega) (fun hn => absurd hn (by decide)) (fun _ => ?_)
  refine run_ok 5 (c' := (19, [(0, .ref 0), (1, .long d6), (3, .int (nI 6))], [.int (nI 6), .ref 0, .long (31 * d6)], u1)) rfl ?_
  refine x_callV [.int (nI 6)] rfl cv_N_count.1 lk_6_298 cv_N_count.2.1 cv_N_count.2.2.1 rfl cv_N_count.2.2.2.1 rfl rfl (Nat.le_of_ble_eq_true rfl) (by decide) cv_N_count.2.2.2.2 (c_count6 u1 T (hT.keep f1 (by decide)) hto) ?_
  rintro r u2 ⟨hr, g2⟩
  rw [hr]
  clear hr r
  have f2 : fr CQ S u2 := f1.tr g2
  refine run_ok 2 (c' := (24, [(0, .ref 0), (1, .long d6), (3, .int (nI 6))], [.long ((31 * d6) + ((nI (sha_ (vh (vo T 24)) 8)).toInt64))], u2)) rfl ?_
  obtain ⟨d7, e7⟩ : ∃ y : Int64, y = dg d6 (nI (sha_ (vh (vo T 24)) 8)) := ⟨_, rfl⟩
  refine x_topl (v' := d7) e7.symm ?_
  refine run_ok 5 (c' := (9, [(0, .ref 0), (1, .long d7), (3, .int (nI 7))], [.int (nI 8), .int (nI 7)], u2)) rfl ?_
  refine x_icmpN_ge 31 rfl rfl (by omega) (by omega) (fun hn => absurd hn (by decide)) (fun _ => ?_)
  refine run_ok 5 (c' := (19, [(0, .ref 0), (1, .long d7), (3, .int (nI 7))], [.int (nI 7), .ref 0, .long (31 * d7)], u2)) rfl ?_
  refine x_callV [.int (nI 7)] rfl cv_N_count.1 lk_6_298 cv_N_count.2.1 cv_N_count.2.2.1 rfl cv_N_count.2.2.2.1 rfl rfl (Nat.le_of_ble_eq_true rfl) (by decide) cv_N_count.2.2.2.2 (c_count7 u2) ?_
  rintro r x ⟨hr, hu⟩
  rw [hr, hu]
  clear hr hu r x
  refine x_top (v' := S.1 32 3) (by rw [f2 32 (by decide)]) ?_
  refine run_ok 2 (c' := (24, [(0, .ref 0), (1, .long d7), (3, .int (nI 7))], [.long ((31 * d7) + ((S.1 32 3).toInt64))], u2)) rfl ?_
  obtain ⟨d8, e8⟩ : ∃ y : Int64, y = dg d7 (S.1 32 3) := ⟨_, rfl⟩
  refine x_topl (v' := d8) e8.symm ?_
  refine run_ok 5 (c' := (9, [(0, .ref 0), (1, .long d8), (3, .int (nI 8))], [.int (nI 8), .int (nI 8)], u2)) rfl ?_
  refine x_icmpN_ge 31 rfl rfl (by omega) (by omega) (fun _ => ?_) (fun hn => absurd hn (by decide))
  refine run_ok 5 (c' := (38, [(0, .ref 0), (1, .long d8), (3, .int (nI 8))], [.int (nI 0), .ref 0, .long (31 * d8)], u2)) rfl ?_
  refine x_callV [.int (nI 0)] rfl cv_N_fault.1 lk_6_301 cv_N_fault.2.1 cv_N_fault.2.2.1 rfl cv_N_fault.2.2.2.1 rfl rfl (Nat.le_of_ble_eq_true rfl) (by decide) cv_N_fault.2.2.2.2 (c_fault_ok0 u2) ?_
  rintro r x ⟨hr, hu⟩
  rw [hr, hu]
  clear hr hu r x
  refine x_top (v' := S.1 1 2) (by rw [f2 1 (by decide)]) ?_
  refine run_ok 2 (c' := (43, [(0, .ref 0), (1, .long d8), (3, .int (nI 8))], [.long ((31 * d8) + ((S.1 1 2).toInt64))], u2)) rfl ?_
  obtain ⟨d9, e9⟩ : ∃ y : Int64, y = dg d8 (S.1 1 2) := ⟨_, rfl⟩
  refine x_topl (v' := d9) e9.symm ?_
  refine run_ok 6 (c' := (51, [(0, .ref 0), (1, .long d9), (3, .int (nI 8))], [.int (nI 1), .ref 0, .long (31 * d9)], u2)) rfl ?_
  refine x_callV [.int (nI 1)] rfl cv_N_fault.1 lk_6_301 cv_N_fault.2.1 cv_N_fault.2.2.1 rfl cv_N_fault.2.2.2.1 rfl rfl (Nat.le_of_ble_eq_true rfl) (by decide) cv_N_fault.2.2.2.2 (c_fault_ok1 u2) ?_
  rintro r x ⟨hr, hu⟩
  rw [hr, hu]
  clear hr hu r x
  refine x_top (v' := S.1 3 2) (by rw [f2 3 (by decide)]) ?_
  refine run_ok 2 (c' := (56, [(0, .ref 0), (1, .long d9), (3, .int (nI 8))], [.long ((31 * d9) + ((S.1 3 2).toInt64))], u2)) rfl ?_
  obtain ⟨d10, e10⟩ : ∃ y : Int64, y = dg d9 (S.1 3 2) := ⟨_, rfl⟩
  refine x_topl (v' := d10) e10.symm ?_
  refine run_ok 3 (c' := (59, [(0, .ref 0), (1, .long d10), (3, .int (nI 8))], [.int (nI 5), .ref 0], u2)) rfl ?_
  refine x_callV [.int (nI 5)] rfl cv_N_weighSunk.1 lk_6_239 cv_N_weighSunk.2.1 cv_N_weighSunk.2.2.1 rfl cv_N_weighSunk.2.2.2.1 rfl rfl (Nat.le_of_ble_eq_true rfl) (by decide) cv_N_weighSunk.2.2.2.2 (c_weighSunk u2 T (hT.keep f2 (by decide)) hto hne 5 (by decide)) ?_
  rintro r v ⟨hr, hs, g9⟩
  rw [hr]
  clear hr r
  refine run_ok 2 (c' := (64, [(0, .ref 0), (1, .long d10), (3, .int (nI 0))], [], v)) rfl ?_
  refine H1 d10 ?_ 0 (Nat.zero_le _) v (f2.tr g9) hs
  subst e1
  subst e2
  subst e3
  subst e4
  subst e5
  subst e6
  subst e7
  subst e8
  subst e9
  subst e10
  rfl


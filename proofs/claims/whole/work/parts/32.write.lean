/-! write, count of the class -/
set_option maxHeartbeats 2000000 in
theorem c_write_bad (S : ST) (T : TD) (t9 : S.1 5 6 = nI (tnb T)) (x y : Int32) (hbad : ¬ ((0 ≤ x ∧ x < nI (tnb T)) ∧ (0 ≤ y ∧ y < nI 4))) : EX me_N_write 5 [.ref 0, .int x, .int y] S (fun r u => r = some (.int ((-2))) ∧ u = S) := by
  refine EX.of mok_N_write (Nat.le_of_ble_eq_true rfl) ?_
  refine run_ok 2 (c' := (2, [(0, .ref 0), (1, .int x), (2, .int y)], [.int x, .ref 0], S)) rfl ?_
  refine x_callV [.int x] rfl cv_N_isBoat.1 lk_6_107 cv_N_isBoat.2.1 cv_N_isBoat.2.2.1 rfl cv_N_isBoat.2.2.2.1 rfl rfl (Nat.le_of_ble_eq_true rfl) (by decide) cv_N_isBoat.2.2.2.2 (c_isBoat S (x) (tnb T) t9) ?_
  rintro r u ⟨hr, hu⟩
  rw [hr, hu]
  clear hr hu r u
  refine x_ifB_eq 16 rfl rfl (fun h5 => ?_) (fun h5 => ?_)
  · refine run_ok 1 (c' := (18, [(0, .ref 0), (1, .int x), (2, .int y)], [.int (-2)], S)) rfl ?_
    exact x_ret (r := some (.int (-2))) rfl rfl trivial ⟨rfl, rfl⟩ rfl
  · refine run_ok 2 (c' := (10, [(0, .ref 0), (1, .int x), (2, .int y)], [.int (nI 4), .int y], S)) rfl ?_
    refine x_callS [.int y, .int (nI 4)] rfl cs_N_isBelow.1 lk_6_73 cs_N_isBelow.2.1 rfl rfl (Nat.le_of_ble_eq_true rfl) (by decide) cs_N_isBelow.2.2 (c_isBelow S (y) (nI 4)) ?_
    rintro r u ⟨hr, hu⟩
    rw [hr, hu]
    clear hr hu r u
    refine x_ifB_ne 19 rfl rfl (fun h13 => ?_) (fun h13 => ?_)
    · exact absurd ⟨h5, h13⟩ hbad
    · refine run_ok 1 (c' := (18, [(0, .ref 0), (1, .int x), (2, .int y)], [.int (-2)], S)) rfl ?_
      exact x_ret (r := some (.int (-2))) rfl rfl trivial ⟨rfl, rfl⟩ rfl

set_option maxHeartbeats 2000000 in
theorem c_write_null0 (S : ST) (T : TD) (hT : TR 5 T S) (hto : tok T) (hne : tne T ≤ 8) (lo fm sz : Nat) (hH : HR 38 lo fm sz S) (hlo : lo = 1) (k : Nat) (hk : k < tnb T) : EX me_N_write 5 [.ref 0, .int (nI k), .int (nI 0)] S (fun r u => r = some (.int ((-10) - nI 1)) ∧ u = pt S 0 10 (nI 1)) := by
  refine EX.of mok_N_write (Nat.le_of_ble_eq_true rfl) ?_
  obtain ⟨n8, n9, hbt, het, hht, hlo⟩ := id hto
  obtain ⟨t1, t2, t3, t4, t5, t6, t7, t8, t9, t10, t11⟩ := id hT
  obtain ⟨g3, g1, g2, hl1, hf2, hs60⟩ := id hH
  refine run_ok 2 (c' := (2, [(0, .ref 0), (1, .int (nI k)), (2, .int (nI 0))], [.int (nI k), .ref 0], S)) rfl ?_
  refine x_callV [.int (nI k)] rfl cv_N_isBoat.1 lk_6_107 cv_N_isBoat.2.1 cv_N_isBoat.2.2.1 rfl cv_N_isBoat.2.2.2.1 rfl rfl (Nat.le_of_ble_eq_true rfl) (by decide) cv_N_isBoat.2.2.2.2 (c_isBoat S (nI k) (tnb T) t9) ?_
  rintro r u ⟨hr, hu⟩
  rw [hr, hu]
  clear hr hu r u
  refine x_ifB_eq 16 rfl rfl (fun hn => absurd hn (fun z => z (inr_t hk (by omega)))) (fun h5 => ?_)
  refine run_ok 2 (c' := (10, [(0, .ref 0), (1, .int (nI k)), (2, .int (nI 0))], [.int (nI 4), .int (nI 0)], S)) rfl ?_
  refine x_callS [.int (nI 0), .int (nI 4)] rfl cs_N_isBelow.1 lk_6_73 cs_N_isBelow.2.1 rfl rfl (Nat.le_of_ble_eq_true rfl) (by decide) cs_N_isBelow.2.2 (c_isBelow S (nI 0) (nI 4)) ?_
  rintro r u ⟨hr, hu⟩
  rw [hr, hu]
  clear hr hu r u
  refine x_ifB_ne 19 rfl rfl (fun h13 => ?_) (fun hn => absurd (inr_t (by decide) (by decide)) hn)
  refine run_ok 3 (c' := (24, [(0, .ref 0), (1, .int (nI k)), (2, .int (nI 0))], [.int (nI 0), .ref 37], S)) rfl ?_
  refine x_aald (t := 38) rfl rfl (vp_in_nI (by decide) (by decide)) (by decide) ?_
  refine run_ok 3 (c' := (30, [(0, .ref 0), (1, .int (nI k)), (2, .int (nI 0)), (3, .ref 38)], [.int (S.1 38 3)], S)) rfl ?_
  refine x_top (v' := nI lo) g3 ?_
  refine x_ifN_eq 39 rfl rfl (by omega) (fun hn => absurd hn (by omega)) (fun h30 => ?_)
  refine run_ok 2 (c' := (35, [(0, .ref 0), (1, .int (nI k)), (2, .int (nI 0)), (3, .ref 38)], [.int (nI 1), .ref 0], S)) rfl ?_
  refine x_callV [.int (nI 1)] rfl cv_N_find.1 lk_6_134 cv_N_find.2.1 cv_N_find.2.2.1 rfl cv_N_find.2.2.2.1 rfl rfl (Nat.le_of_ble_eq_true rfl) (by decide) cv_N_find.2.2.2.2 (c_find S (1)) ?_
  rintro r x ⟨hr, hu⟩
  rw [hr, hu]
  clear hr hu r x
  exact x_ret (r := some (.int ((-10) - nI 1))) rfl rfl trivial ⟨rfl, rfl⟩ rfl

set_option maxHeartbeats 2000000 in
theorem c_write_ok0 (S : ST) (T : TD) (hT : TR 5 T S) (hto : tok T) (hne : tne T ≤ 8) (lo fm sz : Nat) (hH : HR 38 lo fm sz S) (hlo0 : lo = 0) (k : Nat) (hk : k < tnb T) : EX me_N_write 5 [.ref 0, .int (nI k), .int (nI 0)] S (fun r u => r = some (.int (nI (min sz 24))) ∧ (∀ j, j < min sz 24 → u.1 39 j = cvt fm (nI (vgr (vo T (j + 1)) k))) ∧ (∀ j, min sz 24 ≤ j → u.1 39 j = S.1 39 j) ∧ fr (39 :: VL) S u) := by
  refine EX.of mok_N_write (Nat.le_of_ble_eq_true rfl) ?_
  obtain ⟨n8, n9, hbt, het, hht, hlo⟩ := id hto
  obtain ⟨t1, t2, t3, t4, t5, t6, t7, t8, t9, t10, t11⟩ := id hT
  obtain ⟨g3, g1, g2, hl1, hf2, hs60⟩ := id hH
  have hmn : min sz 24 ≤ 24 := Nat.min_le_right _ _
  have hmz : min sz 24 ≤ sz := Nat.min_le_left _ _
  have H : ∀ w, w ≤ min sz 24 → ∀ v : ST, CR 5 T (vo T w) (lsn T w) v → (∀ j, j < w → v.1 39 j = cvt fm (nI (vgr (vo T (j + 1)) k))) → (∀ j, w ≤ j → v.1 39 j = S.1 39 j) → fr (39 :: VL) S v → BX me_N_write 5 none (fun r u => r = some (.int (nI (min sz 24))) ∧ (∀ j, j < min sz 24 → u.1 39 j = cvt fm (nI (vgr (vo T (j + 1)) k))) ∧ (∀ j, min sz 24 ≤ j → u.1 39 j = S.1 39 j) ∧ fr (39 :: VL) S u) (64, [(0, .ref 0), (1, .int (nI k)), (2, .int (nI 0)), (3, .ref 38), (4, .int (nI (min sz 24))), (5, .int (nI w))], [], v) := by
    refine loop_up (P := fun w => ∀ v : ST, CR 5 T (vo T w) (lsn T w) v → (∀ j, j < w → v.1 39 j = cvt fm (nI (vgr (vo T (j + 1)) k))) → (∀ j, w ≤ j → v.1 39 j = S.1 39 j) → fr (39 :: VL) S v → BX me_N_write 5 none (fun r u => r = some (.int (nI (min sz 24))) ∧ (∀ j, j < min sz 24 → u.1 39 j = cvt fm (nI (vgr (vo T (j + 1)) k))) ∧ (∀ j, min sz 24 ≤ j → u.1 39 j = S.1 39 j) ∧ fr (39 :: VL) S u) (64, [(0, .ref 0), (1, .int (nI k)), (2, .int (nI 0)), (3, .ref 38), (4, .int (nI (min sz 24))), (5, .int (nI w))], [], v)) (min sz 24) ?_ ?_
    · intro v hC ha hb hf
      refine run_ok 2 (c' := (68, [(0, .ref 0), (1, .int (nI k)), (2, .int (nI 0)), (3, .ref 38), (4, .int (nI (min sz 24))), (5, .int (nI (min sz 24)))], [.int (nI (min sz 24)), .int (nI (min sz 24))], v)) rfl ?_
      refine x_icmpN_ge 101 rfl rfl (by omega) (by omega) (fun h68 => ?_) (fun hn => absurd (Nat.le_refl _) hn)
      refine run_ok 1 (c' := (103, [(0, .ref 0), (1, .int (nI k)), (2, .int (nI 0)), (3, .ref 38), (4, .int (nI (min sz 24))), (5, .int (nI (min sz 24)))], [.int (nI (min sz 24))], v)) rfl ?_
      exact x_ret (r := some (.int (nI (min sz 24)))) rfl rfl trivial ⟨rfl, ha, hb, hf⟩ rfl
    · intro w hw ih v hC ha hb hf
      refine run_ok 2 (c' := (68, [(0, .ref 0), (1, .int (nI k)), (2, .int (nI 0)), (3, .ref 38), (4, .int (nI (min sz 24))), (5, .int (nI w))], [.int (nI (min sz 24)), .int (nI w)], v)) rfl ?_
      refine x_icmpN_ge 101 rfl rfl (by omega) (by omega) (fun hn => absurd hn (show ¬ min sz 24 ≤ w by omega)) (fun h68 => ?_)
      refine run_ok 3 (c' := (77, [(0, .ref 0), (1, .int (nI k)), (2, .int (nI 0)), (3, .ref 38), (4, .int (nI (min sz 24))), (5, .int (nI w))], [.int (nI w), .ref 23], v)) rfl ?_
      refine x_callV [.int (nI w)] rfl cv_V_sail.1 lk_6_282 cv_V_sail.2.1 cv_V_sail.2.2.1 rfl cv_V_sail.2.2.2.1 rfl rfl (Nat.le_of_ble_eq_true rfl) (by decide) cv_V_sail.2.2.2.2 (c_sail5 v T (vo T w) (lsn T w) w (hT.keep hf (by decide)) hto hC (vk_vo hto w (by omega)).1 (vk_vo hto w (by omega)).2 (by omega)) ?_
      rintro r z ⟨hr, hCz, hfz, h2z⟩
      rw [hr]
      clear hr r
      have hCz := hCz.ls (fun k hk => lsn_s hk)
      have h27 : rh z 27 (tnb T) (vgr (vo T (w + 1))) := hCz.2.2.2.1
      have hHz : HR 38 lo fm sz z := hH.keep (by rw [hfz 38 (by decide), hf 38 (by decide)])
      refine run_ok 6 (c' := (91, [(0, .ref 0), (1, .int (nI k)), (2, .int (nI 0)), (3, .ref 38), (4, .int (nI (min sz 24))), (5, .int (nI w))], [.int (nI k), .ref 27, .int (nI w), .ref 38], z)) rfl ?_
      refine x_iaN (nI (vgr (vo T (w + 1)) k)) rfl rfl (by decide) (by omega) (h27 k (by omega)) ?_
      refine x_callV [.int (nI w), .int (nI (vgr (vo T (w + 1)) k))] rfl cv_H_set.1 lk_6_258 cv_H_set.2.1 cv_H_set.2.2.1 rfl cv_H_set.2.2.2.1 rfl rfl (Nat.le_of_ble_eq_true rfl) (by decide) cv_H_set.2.2.2.2 (c_set0 z lo fm sz hHz w (nI (vgr (vo T (w + 1)) k)) (by omega)) ?_
      rintro r x ⟨hr, hu⟩
      rw [hr, hu]
      clear hr hu r x
      refine run_ok 1 (c' := (98, [(0, .ref 0), (1, .int (nI k)), (2, .int (nI 0)), (3, .ref 38), (4, .int (nI (min sz 24))), (5, .int (nI w + nI 1))], [], (pt z 39 w (cvt fm (nI (vgr (vo T (w + 1)) k)))))) rfl ?_
      rw [nI_add w 1]
      refine run_ok 1 (c' := (64, [(0, .ref 0), (1, .int (nI k)), (2, .int (nI 0)), (3, .ref 38), (4, .int (nI (min sz 24))), (5, .int (nI (w + 1)))], [], (pt z 39 w (cvt fm (nI (vgr (vo T (w + 1)) k)))))) rfl ?_
      refine ih _ ?_ (fun j hj => ?_) (fun j hj => ?_) ((hf.tr (hfz.sub (by decide))).pt (by decide))
      · obtain ⟨h24, h25, h26, h27, h28, h29, hsr, g9, g10, g11, htl⟩ := hCz
        exact ⟨h24, h25, h26, h27, h28, h29, hsr, g9, g10, g11, htl⟩
      · show upd (z.1 39) w _ j = _
        by_cases e : j = w
        · rw [e, upd_s]
        · rw [upd_n e, hfz 39 (by decide)]; exact ha j (by omega)
      · show upd (z.1 39) w _ j = _
        rw [upd_n (by omega), hfz 39 (by decide)]; exact hb j (by omega)
  refine run_ok 2 (c' := (2, [(0, .ref 0), (1, .int (nI k)), (2, .int (nI 0))], [.int (nI k), .ref 0], S)) rfl ?_
  refine x_callV [.int (nI k)] rfl cv_N_isBoat.1 lk_6_107 cv_N_isBoat.2.1 cv_N_isBoat.2.2.1 rfl cv_N_isBoat.2.2.2.1 rfl rfl (Nat.le_of_ble_eq_true rfl) (by decide) cv_N_isBoat.2.2.2.2 (c_isBoat S (nI k) (tnb T) t9) ?_
  rintro r u ⟨hr, hu⟩
  rw [hr, hu]
  clear hr hu r u
  refine x_ifB_eq 16 rfl rfl (fun hn => absurd hn (fun z => z (inr_t hk (by omega)))) (fun h5 => ?_)
  refine run_ok 2 (c' := (10, [(0, .ref 0), (1, .int (nI k)), (2, .int (nI 0))], [.int (nI 4), .int (nI 0)], S)) rfl ?_
  refine x_callS [.int (nI 0), .int (nI 4)] rfl cs_N_isBelow.1 lk_6_73 cs_N_isBelow.2.1 rfl rfl (Nat.le_of_ble_eq_true rfl) (by decide) cs_N_isBelow.2.2 (c_isBelow S (nI 0) (nI 4)) ?_
  rintro r u ⟨hr, hu⟩
  rw [hr, hu]
  clear hr hu r u
  refine x_ifB_ne 19 rfl rfl (fun h13 => ?_) (fun hn => absurd (inr_t (by decide) (by decide)) hn)
  refine run_ok 3 (c' := (24, [(0, .ref 0), (1, .int (nI k)), (2, .int (nI 0))], [.int (nI 0), .ref 37], S)) rfl ?_
  refine x_aald (t := 38) rfl rfl (vp_in_nI (by decide) (by decide)) (by decide) ?_
  refine run_ok 3 (c' := (30, [(0, .ref 0), (1, .int (nI k)), (2, .int (nI 0)), (3, .ref 38)], [.int (S.1 38 3)], S)) rfl ?_
  refine x_top (v' := nI lo) g3 ?_
  refine x_ifN_eq 39 rfl rfl (by omega) (fun h30 => ?_) (fun hn => absurd hlo0 hn)
  refine run_ok 2 (c' := (43, [(0, .ref 0), (1, .int (nI k)), (2, .int (nI 0)), (3, .ref 38)], [.int (S.1 38 2)], S)) rfl ?_
  refine x_top (v' := nI sz) g2 ?_
  refine run_ok 1 (c' := (45, [(0, .ref 0), (1, .int (nI k)), (2, .int (nI 0)), (3, .ref 38)], [.int (nI 24), .int (nI sz)], S)) rfl ?_
  refine x_mmin rfl lk_6_274 wm_min.1 wm_min.2.1 wm_min.2.2 (Nat.le_of_ble_eq_true rfl) (by decide) ?_
  refine x_top (v' := nI (min sz 24)) (minN (by omega) (by decide)) ?_
  refine run_ok 5 (c' := (58, [(0, .ref 0), (1, .int (nI k)), (2, .int (nI 0)), (3, .ref 38), (4, .int (nI (min sz 24)))], [.ref 5, .ref 23], S)) rfl ?_
  refine x_callV [.ref 5] rfl cv_V_begin.1 lk_6_279 cv_V_begin.2.1 cv_V_begin.2.2.1 rfl cv_V_begin.2.2.2.1 rfl rfl (Nat.le_of_ble_eq_true rfl) (by decide) cv_V_begin.2.2.2.2 (c_begin5 S T hT hto) ?_
  rintro r z ⟨hr, hCz, hfz, h2z⟩
  rw [hr]
  clear hr r
  refine run_ok 2 (c' := (64, [(0, .ref 0), (1, .int (nI k)), (2, .int (nI 0)), (3, .ref 38), (4, .int (nI (min sz 24))), (5, .int (nI 0))], [], z)) rfl ?_
  exact H 0 (Nat.zero_le _) z (hCz.ls (fun _ _ => rfl)) (fun j hj => absurd hj (Nat.not_lt_zero _)) (fun j _ => by rw [hfz 39 (by decide)]) (hfz.sub (by decide))

set_option maxHeartbeats 2000000 in
theorem c_write_null1 (S : ST) (T : TD) (hT : TR 5 T S) (hto : tok T) (hne : tne T ≤ 8) (lo fm sz : Nat) (hH : HR 40 lo fm sz S) (hlo : lo = 1) (k : Nat) (hk : k < tnb T) : EX me_N_write 5 [.ref 0, .int (nI k), .int (nI 1)] S (fun r u => r = some (.int ((-10) - nI 1)) ∧ u = pt S 0 10 (nI 1)) := by
  refine EX.of mok_N_write (Nat.le_of_ble_eq_true rfl) ?_
  obtain ⟨n8, n9, hbt, het, hht, hlo⟩ := id hto
  obtain ⟨t1, t2, t3, t4, t5, t6, t7, t8, t9, t10, t11⟩ := id hT
  obtain ⟨g3, g1, g2, hl1, hf2, hs60⟩ := id hH
  refine run_ok 2 (c' := (2, [(0, .ref 0), (1, .int (nI k)), (2, .int (nI 1))], [.int (nI k), .ref 0], S)) rfl ?_
  refine x_callV [.int (nI k)] rfl cv_N_isBoat.1 lk_6_107 cv_N_isBoat.2.1 cv_N_isBoat.2.2.1 rfl cv_N_isBoat.2.2.2.1 rfl rfl (Nat.le_of_ble_eq_true rfl) (by decide) cv_N_isBoat.2.2.2.2 (c_isBoat S (nI k) (tnb T) t9) ?_
  rintro r u ⟨hr, hu⟩
  rw [hr, hu]
  clear hr hu r u
  refine x_ifB_eq 16 rfl rfl (fun hn => absurd hn (fun z => z (inr_t hk (by omega)))) (fun h5 => ?_)
  refine run_ok 2 (c' := (10, [(0, .ref 0), (1, .int (nI k)), (2, .int (nI 1))], [.int (nI 4), .int (nI 1)], S)) rfl ?_
  refine x_callS [.int (nI 1), .int (nI 4)] rfl cs_N_isBelow.1 lk_6_73 cs_N_isBelow.2.1 rfl rfl (Nat.le_of_ble_eq_true rfl) (by decide) cs_N_isBelow.2.2 (c_isBelow S (nI 1) (nI 4)) ?_
  rintro r u ⟨hr, hu⟩
  rw [hr, hu]
  clear hr hu r u
  refine x_ifB_ne 19 rfl rfl (fun h13 => ?_) (fun hn => absurd (inr_t (by decide) (by decide)) hn)
  refine run_ok 3 (c' := (24, [(0, .ref 0), (1, .int (nI k)), (2, .int (nI 1))], [.int (nI 1), .ref 37], S)) rfl ?_
  refine x_aald (t := 40) rfl rfl (vp_in_nI (by decide) (by decide)) (by decide) ?_
  refine run_ok 3 (c' := (30, [(0, .ref 0), (1, .int (nI k)), (2, .int (nI 1)), (3, .ref 40)], [.int (S.1 40 3)], S)) rfl ?_
  refine x_top (v' := nI lo) g3 ?_
  refine x_ifN_eq 39 rfl rfl (by omega) (fun hn => absurd hn (by omega)) (fun h30 => ?_)
  refine run_ok 2 (c' := (35, [(0, .ref 0), (1, .int (nI k)), (2, .int (nI 1)), (3, .ref 40)], [.int (nI 1), .ref 0], S)) rfl ?_
  refine x_callV [.int (nI 1)] rfl cv_N_find.1 lk_6_134 cv_N_find.2.1 cv_N_find.2.2.1 rfl cv_N_find.2.2.2.1 rfl rfl (Nat.le_of_ble_eq_true rfl) (by decide) cv_N_find.2.2.2.2 (c_find S (1)) ?_
  rintro r x ⟨hr, hu⟩
  rw [hr, hu]
  clear hr hu r x
  exact x_ret (r := some (.int ((-10) - nI 1))) rfl rfl trivial ⟨rfl, rfl⟩ rfl

set_option maxHeartbeats 2000000 in
theorem c_write_ok1 (S : ST) (T : TD) (hT : TR 5 T S) (hto : tok T) (hne : tne T ≤ 8) (lo fm sz : Nat) (hH : HR 40 lo fm sz S) (hlo0 : lo = 0) (k : Nat) (hk : k < tnb T) : EX me_N_write 5 [.ref 0, .int (nI k), .int (nI 1)] S (fun r u => r = some (.int (nI (min sz 24))) ∧ (∀ j, j < min sz 24 → u.1 41 j = cvt fm (nI (vgr (vo T (j + 1)) k))) ∧ (∀ j, min sz 24 ≤ j → u.1 41 j = S.1 41 j) ∧ fr (41 :: VL) S u) := by
  refine EX.of mok_N_write (Nat.le_of_ble_eq_true rfl) ?_
  obtain ⟨n8, n9, hbt, het, hht, hlo⟩ := id hto
  obtain ⟨t1, t2, t3, t4, t5, t6, t7, t8, t9, t10, t11⟩ := id hT
  obtain ⟨g3, g1, g2, hl1, hf2, hs60⟩ := id hH
  have hmn : min sz 24 ≤ 24 := Nat.min_le_right _ _
  have hmz : min sz 24 ≤ sz := Nat.min_le_left _ _
  have H : ∀ w, w ≤ min sz 24 → ∀ v : ST, CR 5 T (vo T w) (lsn T w) v → (∀ j, j < w → v.1 41 j = cvt fm (nI (vgr (vo T (j + 1)) k))) → (∀ j, w ≤ j → v.1 41 j = S.1 41 j) → fr (41 :: VL) S v → BX me_N_write 5 none (fun r u => r = some (.int (nI (min sz 24))) ∧ (∀ j, j < min sz 24 → u.1 41 j = cvt fm (nI (vgr (vo T (j + 1)) k))) ∧ (∀ j, min sz 24 ≤ j → u.1 41 j = S.1 41 j) ∧ fr (41 :: VL) S u) (64, [(0, .ref 0), (1, .int (nI k)), (2, .int (nI 1)), (3, .ref 40), (4, .int (nI (min sz 24))), (5, .int (nI w))], [], v) := by
    refine loop_up (P := fun w => ∀ v : ST, CR 5 T (vo T w) (lsn T w) v → (∀ j, j < w → v.1 41 j = cvt fm (nI (vgr (vo T (j + 1)) k))) → (∀ j, w ≤ j → v.1 41 j = S.1 41 j) → fr (41 :: VL) S v → BX me_N_write 5 none (fun r u => r = some (.int (nI (min sz 24))) ∧ (∀ j, j < min sz 24 → u.1 41 j = cvt fm (nI (vgr (vo T (j + 1)) k))) ∧ (∀ j, min sz 24 ≤ j → u.1 41 j = S.1 41 j) ∧ fr (41 :: VL) S u) (64, [(0, .ref 0), (1, .int (nI k)), (2, .int (nI 1)), (3, .ref 40), (4, .int (nI (min sz 24))), (5, .int (nI w))], [], v)) (min sz 24) ?_ ?_
    · intro v hC ha hb hf
      refine run_ok 2 (c' := (68, [(0, .ref 0), (1, .int (nI k)), (2, .int (nI 1)), (3, .ref 40), (4, .int (nI (min sz 24))), (5, .int (nI (min sz 24)))], [.int (nI (min sz 24)), .int (nI (min sz 24))], v)) rfl ?_
      refine x_icmpN_ge 101 rfl rfl (by omega) (by omega) (fun h68 => ?_) (fun hn => absurd (Nat.le_refl _) hn)
      refine run_ok 1 (c' := (103, [(0, .ref 0), (1, .int (nI k)), (2, .int (nI 1)), (3, .ref 40), (4, .int (nI (min sz 24))), (5, .int (nI (min sz 24)))], [.int (nI (min sz 24))], v)) rfl ?_
      exact x_ret (r := some (.int (nI (min sz 24)))) rfl rfl trivial ⟨rfl, ha, hb, hf⟩ rfl
    · intro w hw ih v hC ha hb hf
      refine run_ok 2 (c' := (68, [(0, .ref 0), (1, .int (nI k)), (2, .int (nI 1)), (3, .ref 40), (4, .int (nI (min sz 24))), (5, .int (nI w))], [.int (nI (min sz 24)), .int (nI w)], v)) rfl ?_
      refine x_icmpN_ge 101 rfl rfl (by omega) (by omega) (fun hn => absurd hn (show ¬ min sz 24 ≤ w by omega)) (fun h68 => ?_)
      refine run_ok 3 (c' := (77, [(0, .ref 0), (1, .int (nI k)), (2, .int (nI 1)), (3, .ref 40), (4, .int (nI (min sz 24))), (5, .int (nI w))], [.int (nI w), .ref 23], v)) rfl ?_
      refine x_callV [.int (nI w)] rfl cv_V_sail.1 lk_6_282 cv_V_sail.2.1 cv_V_sail.2.2.1 rfl cv_V_sail.2.2.2.1 rfl rfl (Nat.le_of_ble_eq_true rfl) (by decide) cv_V_sail.2.2.2.2 (c_sail5 v T (vo T w) (lsn T w) w (hT.keep hf (by decide)) hto hC (vk_vo hto w (by omega)).1 (vk_vo hto w (by omega)).2 (by omega)) ?_
      rintro r z ⟨hr, hCz, hfz, h2z⟩
      rw [hr]
      clear hr r
      have hCz := hCz.ls (fun k hk => lsn_s hk)
      have h27 : rh z 27 (tnb T) (vgr (vo T (w + 1))) := hCz.2.2.2.1
      have hHz : HR 40 lo fm sz z := hH.keep (by rw [hfz 40 (by decide), hf 40 (by decide)])
      refine run_ok 6 (c' := (91, [(0, .ref 0), (1, .int (nI k)), (2, .int (nI 1)), (3, .ref 40), (4, .int (nI (min sz 24))), (5, .int (nI w))], [.int (nI k), .ref 27, .int (nI w), .ref 40], z)) rfl ?_
      refine x_iaN (nI (vgr (vo T (w + 1)) k)) rfl rfl (by decide) (by omega) (h27 k (by omega)) ?_
      refine x_callV [.int (nI w), .int (nI (vgr (vo T (w + 1)) k))] rfl cv_H_set.1 lk_6_258 cv_H_set.2.1 cv_H_set.2.2.1 rfl cv_H_set.2.2.2.1 rfl rfl (Nat.le_of_ble_eq_true rfl) (by decide) cv_H_set.2.2.2.2 (c_set1 z lo fm sz hHz w (nI (vgr (vo T (w + 1)) k)) (by omega)) ?_
      rintro r x ⟨hr, hu⟩
      rw [hr, hu]
      clear hr hu r x
      refine run_ok 1 (c' := (98, [(0, .ref 0), (1, .int (nI k)), (2, .int (nI 1)), (3, .ref 40), (4, .int (nI (min sz 24))), (5, .int (nI w + nI 1))], [], (pt z 41 w (cvt fm (nI (vgr (vo T (w + 1)) k)))))) rfl ?_
      rw [nI_add w 1]
      refine run_ok 1 (c' := (64, [(0, .ref 0), (1, .int (nI k)), (2, .int (nI 1)), (3, .ref 40), (4, .int (nI (min sz 24))), (5, .int (nI (w + 1)))], [], (pt z 41 w (cvt fm (nI (vgr (vo T (w + 1)) k)))))) rfl ?_
      refine ih _ ?_ (fun j hj => ?_) (fun j hj => ?_) ((hf.tr (hfz.sub (by decide))).pt (by decide))
      · obtain ⟨h24, h25, h26, h27, h28, h29, hsr, g9, g10, g11, htl⟩ := hCz
        exact ⟨h24, h25, h26, h27, h28, h29, hsr, g9, g10, g11, htl⟩
      · show upd (z.1 41) w _ j = _
        by_cases e : j = w
        · rw [e, upd_s]
        · rw [upd_n e, hfz 41 (by decide)]; exact ha j (by omega)
      · show upd (z.1 41) w _ j = _
        rw [upd_n (by omega), hfz 41 (by decide)]; exact hb j (by omega)
  refine run_ok 2 (c' := (2, [(0, .ref 0), (1, .int (nI k)), (2, .int (nI 1))], [.int (nI k), .ref 0], S)) rfl ?_
  refine x_callV [.int (nI k)] rfl cv_N_isBoat.1 lk_6_107 cv_N_isBoat.2.1 cv_N_isBoat.2.2.1 rfl cv_N_isBoat.2.2.2.1 rfl rfl (Nat.le_of_ble_eq_true rfl) (by decide) cv_N_isBoat.2.2.2.2 (c_isBoat S (nI k) (tnb T) t9) ?_
  rintro r u ⟨hr, hu⟩
  rw [hr, hu]
  clear hr hu r u
  refine x_ifB_eq 16 rfl rfl (fun hn => absurd hn (fun z => z (inr_t hk (by omega)))) (fun h5 => ?_)
  refine run_ok 2 (c' := (10, [(0, .ref 0), (1, .int (nI k)), (2, .int (nI 1))], [.int (nI 4), .int (nI 1)], S)) rfl ?_
  refine x_callS [.int (nI 1), .int (nI 4)] rfl cs_N_isBelow.1 lk_6_73 cs_N_isBelow.2.1 rfl rfl (Nat.le_of_ble_eq_true rfl) (by decide) cs_N_isBelow.2.2 (c_isBelow S (nI 1) (nI 4)) ?_
  rintro r u ⟨hr, hu⟩
  rw [hr, hu]
  clear hr hu r u
  refine x_ifB_ne 19 rfl rfl (fun h13 => ?_) (fun hn => absurd (inr_t (by decide) (by decide)) hn)
  refine run_ok 3 (c' := (24, [(0, .ref 0), (1, .int (nI k)), (2, .int (nI 1))], [.int (nI 1), .ref 37], S)) rfl ?_
  refine x_aald (t := 40) rfl rfl (vp_in_nI (by decide) (by decide)) (by decide) ?_
  refine run_ok 3 (c' := (30, [(0, .ref 0), (1, .int (nI k)), (2, .int (nI 1)), (3, .ref 40)], [.int (S.1 40 3)], S)) rfl ?_
  refine x_top (v' := nI lo) g3 ?_
  refine x_ifN_eq 39 rfl rfl (by omega) (fun h30 => ?_) (fun hn => absurd hlo0 hn)
  refine run_ok 2 (c' := (43, [(0, .ref 0), (1, .int (nI k)), (2, .int (nI 1)), (3, .ref 40)], [.int (S.1 40 2)], S)) rfl ?_
  refine x_top (v' := nI sz) g2 ?_
  refine run_ok 1 (c' := (45, [(0, .ref 0), (1, .int (nI k)), (2, .int (nI 1)), (3, .ref 40)], [.int (nI 24), .int (nI sz)], S)) rfl ?_
  refine x_mmin rfl lk_6_274 wm_min.1 wm_min.2.1 wm_min.2.2 (Nat.le_of_ble_eq_true rfl) (by decide) ?_
  refine x_top (v' := nI (min sz 24)) (minN (by omega) (by decide)) ?_
  refine run_ok 5 (c' := (58, [(0, .ref 0), (1, .int (nI k)), (2, .int (nI 1)), (3, .ref 40), (4, .int (nI (min sz 24)))], [.ref 5, .ref 23], S)) rfl ?_
  refine x_callV [.ref 5] rfl cv_V_begin.1 lk_6_279 cv_V_begin.2.1 cv_V_begin.2.2.1 rfl cv_V_begin.2.2.2.1 rfl rfl (Nat.le_of_ble_eq_true rfl) (by decide) cv_V_begin.2.2.2.2 (c_begin5 S T hT hto) ?_
  rintro r z ⟨hr, hCz, hfz, h2z⟩
  rw [hr]
  clear hr r
  refine run_ok 2 (c' := (64, [(0, .ref 0), (1, .int (nI k)), (2, .int (nI 1)), (3, .ref 40), (4, .int (nI (min sz 24))), (5, .int (nI 0))], [], z)) rfl ?_
  exact H 0 (Nat.zero_le _) z (hCz.ls (fun _ _ => rfl)) (fun j hj => absurd hj (Nat.not_lt_zero _)) (fun j _ => by rw [hfz 41 (by decide)]) (hfz.sub (by decide))

set_option maxHeartbeats 2000000 in
theorem c_write_null2 (S : ST) (T : TD) (hT : TR 5 T S) (hto : tok T) (hne : tne T ≤ 8) (lo fm sz : Nat) (hH : HR 42 lo fm sz S) (hlo : lo = 1) (k : Nat) (hk : k < tnb T) : EX me_N_write 5 [.ref 0, .int (nI k), .int (nI 2)] S (fun r u => r = some (.int ((-10) - nI 1)) ∧ u = pt S 0 10 (nI 1)) := by
  refine EX.of mok_N_write (Nat.le_of_ble_eq_true rfl) ?_
  obtain ⟨n8, n9, hbt, het, hht, hlo⟩ := id hto
  obtain ⟨t1, t2, t3, t4, t5, t6, t7, t8, t9, t10, t11⟩ := id hT
  obtain ⟨g3, g1, g2, hl1, hf2, hs60⟩ := id hH
  refine run_ok 2 (c' := (2, [(0, .ref 0), (1, .int (nI k)), (2, .int (nI 2))], [.int (nI k), .ref 0], S)) rfl ?_
  refine x_callV [.int (nI k)] rfl cv_N_isBoat.1 lk_6_107 cv_N_isBoat.2.1 cv_N_isBoat.2.2.1 rfl cv_N_isBoat.2.2.2.1 rfl rfl (Nat.le_of_ble_eq_true rfl) (by decide) cv_N_isBoat.2.2.2.2 (c_isBoat S (nI k) (tnb T) t9) ?_
  rintro r u ⟨hr, hu⟩
  rw [hr, hu]
  clear hr hu r u
  refine x_ifB_eq 16 rfl rfl (fun hn => absurd hn (fun z => z (inr_t hk (by omega)))) (fun h5 => ?_)
  refine run_ok 2 (c' := (10, [(0, .ref 0), (1, .int (nI k)), (2, .int (nI 2))], [.int (nI 4), .int (nI 2)], S)) rfl ?_
  refine x_callS [.int (nI 2), .int (nI 4)] rfl cs_N_isBelow.1 lk_6_73 cs_N_isBelow.2.1 rfl rfl (Nat.le_of_ble_eq_true rfl) (by decide) cs_N_isBelow.2.2 (c_isBelow S (nI 2) (nI 4)) ?_
  rintro r u ⟨hr, hu⟩
  rw [hr, hu]
  clear hr hu r u
  refine x_ifB_ne 19 rfl rfl (fun h13 => ?_) (fun hn => absurd (inr_t (by decide) (by decide)) hn)
  refine run_ok 3 (c' := (24, [(0, .ref 0), (1, .int (nI k)), (2, .int (nI 2))], [.int (nI 2), .ref 37], S)) rfl ?_
  refine x_aald (t := 42) rfl rfl (vp_in_nI (by decide) (by decide)) (by decide) ?_
  refine run_ok 3 (c' := (30, [(0, .ref 0), (1, .int (nI k)), (2, .int (nI 2)), (3, .ref 42)], [.int (S.1 42 3)], S)) rfl ?_
  refine x_top (v' := nI lo) g3 ?_
  refine x_ifN_eq 39 rfl rfl (by omega) (fun hn => absurd hn (by omega)) (fun h30 => ?_)
  refine run_ok 2 (c' := (35, [(0, .ref 0), (1, .int (nI k)), (2, .int (nI 2)), (3, .ref 42)], [.int (nI 1), .ref 0], S)) rfl ?_
  refine x_callV [.int (nI 1)] rfl cv_N_find.1 lk_6_134 cv_N_find.2.1 cv_N_find.2.2.1 rfl cv_N_find.2.2.2.1 rfl rfl (Nat.le_of_ble_eq_true rfl) (by decide) cv_N_find.2.2.2.2 (c_find S (1)) ?_
  rintro r x ⟨hr, hu⟩
  rw [hr, hu]
  clear hr hu r x
  exact x_ret (r := some (.int ((-10) - nI 1))) rfl rfl trivial ⟨rfl, rfl⟩ rfl

set_option maxHeartbeats 2000000 in
theorem c_write_ok2 (S : ST) (T : TD) (hT : TR 5 T S) (hto : tok T) (hne : tne T ≤ 8) (lo fm sz : Nat) (hH : HR 42 lo fm sz S) (hlo0 : lo = 0) (k : Nat) (hk : k < tnb T) : EX me_N_write 5 [.ref 0, .int (nI k), .int (nI 2)] S (fun r u => r = some (.int (nI (min sz 24))) ∧ (∀ j, j < min sz 24 → u.1 43 j = cvt fm (nI (vgr (vo T (j + 1)) k))) ∧ (∀ j, min sz 24 ≤ j → u.1 43 j = S.1 43 j) ∧ fr (43 :: VL) S u) := by
  refine EX.of mok_N_write (Nat.le_of_ble_eq_true rfl) ?_
  obtain ⟨n8, n9, hbt, het, hht, hlo⟩ := id hto
  obtain ⟨t1, t2, t3, t4, t5, t6, t7, t8, t9, t10, t11⟩ := id hT
  obtain ⟨g3, g1, g2, hl1, hf2, hs60⟩ := id hH
  have hmn : min sz 24 ≤ 24 := Nat.min_le_right _ _
  have hmz : min sz 24 ≤ sz := Nat.min_le_left _ _
  have H : ∀ w, w ≤ min sz 24 → ∀ v : ST, CR 5 T (vo T w) (lsn T w) v → (∀ j, j < w → v.1 43 j = cvt fm (nI (vgr (vo T (j + 1)) k))) → (∀ j, w ≤ j → v.1 43 j = S.1 43 j) → fr (43 :: VL) S v → BX me_N_write 5 none (fun r u => r = some (.int (nI (min sz 24))) ∧ (∀ j, j < min sz 24 → u.1 43 j = cvt fm (nI (vgr (vo T (j + 1)) k))) ∧ (∀ j, min sz 24 ≤ j → u.1 43 j = S.1 43 j) ∧ fr (43 :: VL) S u) (64, [(0, .ref 0), (1, .int (nI k)), (2, .int (nI 2)), (3, .ref 42), (4, .int (nI (min sz 24))), (5, .int (nI w))], [], v) := by
    refine loop_up (P := fun w => ∀ v : ST, CR 5 T (vo T w) (lsn T w) v → (∀ j, j < w → v.1 43 j = cvt fm (nI (vgr (vo T (j + 1)) k))) → (∀ j, w ≤ j → v.1 43 j = S.1 43 j) → fr (43 :: VL) S v → BX me_N_write 5 none (fun r u => r = some (.int (nI (min sz 24))) ∧ (∀ j, j < min sz 24 → u.1 43 j = cvt fm (nI (vgr (vo T (j + 1)) k))) ∧ (∀ j, min sz 24 ≤ j → u.1 43 j = S.1 43 j) ∧ fr (43 :: VL) S u) (64, [(0, .ref 0), (1, .int (nI k)), (2, .int (nI 2)), (3, .ref 42), (4, .int (nI (min sz 24))), (5, .int (nI w))], [], v)) (min sz 24) ?_ ?_
    · intro v hC ha hb hf
      refine run_ok 2 (c' := (68, [(0, .ref 0), (1, .int (nI k)), (2, .int (nI 2)), (3, .ref 42), (4, .int (nI (min sz 24))), (5, .int (nI (min sz 24)))], [.int (nI (min sz 24)), .int (nI (min sz 24))], v)) rfl ?_
      refine x_icmpN_ge 101 rfl rfl (by omega) (by omega) (fun h68 => ?_) (fun hn => absurd (Nat.le_refl _) hn)
      refine run_ok 1 (c' := (103, [(0, .ref 0), (1, .int (nI k)), (2, .int (nI 2)), (3, .ref 42), (4, .int (nI (min sz 24))), (5, .int (nI (min sz 24)))], [.int (nI (min sz 24))], v)) rfl ?_
      exact x_ret (r := some (.int (nI (min sz 24)))) rfl rfl trivial ⟨rfl, ha, hb, hf⟩ rfl
    · intro w hw ih v hC ha hb hf
      refine run_ok 2 (c' := (68, [(0, .ref 0), (1, .int (nI k)), (2, .int (nI 2)), (3, .ref 42), (4, .int (nI (min sz 24))), (5, .int (nI w))], [.int (nI (min sz 24)), .int (nI w)], v)) rfl ?_
      refine x_icmpN_ge 101 rfl rfl (by omega) (by omega) (fun hn => absurd hn (show ¬ min sz 24 ≤ w by omega)) (fun h68 => ?_)
      refine run_ok 3 (c' := (77, [(0, .ref 0), (1, .int (nI k)), (2, .int (nI 2)), (3, .ref 42), (4, .int (nI (min sz 24))), (5, .int (nI w))], [.int (nI w), .ref 23], v)) rfl ?_
      refine x_callV [.int (nI w)] rfl cv_V_sail.1 lk_6_282 cv_V_sail.2.1 cv_V_sail.2.2.1 rfl cv_V_sail.2.2.2.1 rfl rfl (Nat.le_of_ble_eq_true rfl) (by decide) cv_V_sail.2.2.2.2 (c_sail5 v T (vo T w) (lsn T w) w (hT.keep hf (by decide)) hto hC (vk_vo hto w (by omega)).1 (vk_vo hto w (by omega)).2 (by omega)) ?_
      rintro r z ⟨hr, hCz, hfz, h2z⟩
      rw [hr]
      clear hr r
      have hCz := hCz.ls (fun k hk => lsn_s hk)
      have h27 : rh z 27 (tnb T) (vgr (vo T (w + 1))) := hCz.2.2.2.1
      have hHz : HR 42 lo fm sz z := hH.keep (by rw [hfz 42 (by decide), hf 42 (by decide)])
      refine run_ok 6 (c' := (91, [(0, .ref 0), (1, .int (nI k)), (2, .int (nI 2)), (3, .ref 42), (4, .int (nI (min sz 24))), (5, .int (nI w))], [.int (nI k), .ref 27, .int (nI w), .ref 42], z)) rfl ?_
      refine x_iaN (nI (vgr (vo T (w + 1)) k)) rfl rfl (by decide) (by omega) (h27 k (by omega)) ?_
      refine x_callV [.int (nI w), .int (nI (vgr (vo T (w + 1)) k))] rfl cv_H_set.1 lk_6_258 cv_H_set.2.1 cv_H_set.2.2.1 rfl cv_H_set.2.2.2.1 rfl rfl (Nat.le_of_ble_eq_true rfl) (by decide) cv_H_set.2.2.2.2 (c_set2 z lo fm sz hHz w (nI (vgr (vo T (w + 1)) k)) (by omega)) ?_
      rintro r x ⟨hr, hu⟩
      rw [hr, hu]
      clear hr hu r x
      refine run_ok 1 (c' := (98, [(0, .ref 0), (1, .int (nI k)), (2, .int (nI 2)), (3, .ref 42), (4, .int (nI (min sz 24))), (5, .int (nI w + nI 1))], [], (pt z 43 w (cvt fm (nI (vgr (vo T (w + 1)) k)))))) rfl ?_
      rw [nI_add w 1]
      refine run_ok 1 (c' := (64, [(0, .ref 0), (1, .int (nI k)), (2, .int (nI 2)), (3, .ref 42), (4, .int (nI (min sz 24))), (5, .int (nI (w + 1)))], [], (pt z 43 w (cvt fm (nI (vgr (vo T (w + 1)) k)))))) rfl ?_
      refine ih _ ?_ (fun j hj => ?_) (fun j hj => ?_) ((hf.tr (hfz.sub (by decide))).pt (by decide))
      · obtain ⟨h24, h25, h26, h27, h28, h29, hsr, g9, g10, g11, htl⟩ := hCz
        exact ⟨h24, h25, h26, h27, h28, h29, hsr, g9, g10, g11, htl⟩
      · show upd (z.1 43) w _ j = _
        by_cases e : j = w
        · rw [e, upd_s]
        · rw [upd_n e, hfz 43 (by decide)]; exact ha j (by omega)
      · show upd (z.1 43) w _ j = _
        rw [upd_n (by omega), hfz 43 (by decide)]; exact hb j (by omega)
  refine run_ok 2 (c' := (2, [(0, .ref 0), (1, .int (nI k)), (2, .int (nI 2))], [.int (nI k), .ref 0], S)) rfl ?_
  refine x_callV [.int (nI k)] rfl cv_N_isBoat.1 lk_6_107 cv_N_isBoat.2.1 cv_N_isBoat.2.2.1 rfl cv_N_isBoat.2.2.2.1 rfl rfl (Nat.le_of_ble_eq_true rfl) (by decide) cv_N_isBoat.2.2.2.2 (c_isBoat S (nI k) (tnb T) t9) ?_
  rintro r u ⟨hr, hu⟩
  rw [hr, hu]
  clear hr hu r u
  refine x_ifB_eq 16 rfl rfl (fun hn => absurd hn (fun z => z (inr_t hk (by omega)))) (fun h5 => ?_)
  refine run_ok 2 (c' := (10, [(0, .ref 0), (1, .int (nI k)), (2, .int (nI 2))], [.int (nI 4), .int (nI 2)], S)) rfl ?_
  refine x_callS [.int (nI 2), .int (nI 4)] rfl cs_N_isBelow.1 lk_6_73 cs_N_isBelow.2.1 rfl rfl (Nat.le_of_ble_eq_true rfl) (by decide) cs_N_isBelow.2.2 (c_isBelow S (nI 2) (nI 4)) ?_
  rintro r u ⟨hr, hu⟩
  rw [hr, hu]
  clear hr hu r u
  refine x_ifB_ne 19 rfl rfl (fun h13 => ?_) (fun hn => absurd (inr_t (by decide) (by decide)) hn)
  refine run_ok 3 (c' := (24, [(0, .ref 0), (1, .int (nI k)), (2, .int (nI 2))], [.int (nI 2), .ref 37], S)) rfl ?_
  refine x_aald (t := 42) rfl rfl (vp_in_nI (by decide) (by decide)) (by decide) ?_
  refine run_ok 3 (c' := (30, [(0, .ref 0), (1, .int (nI k)), (2, .int (nI 2)), (3, .ref 42)], [.int (S.1 42 3)], S)) rfl ?_
  refine x_top (v' := nI lo) g3 ?_
  refine x_ifN_eq 39 rfl rfl (by omega) (fun h30 => ?_) (fun hn => absurd hlo0 hn)
  refine run_ok 2 (c' := (43, [(0, .ref 0), (1, .int (nI k)), (2, .int (nI 2)), (3, .ref 42)], [.int (S.1 42 2)], S)) rfl ?_
  refine x_top (v' := nI sz) g2 ?_
  refine run_ok 1 (c' := (45, [(0, .ref 0), (1, .int (nI k)), (2, .int (nI 2)), (3, .ref 42)], [.int (nI 24), .int (nI sz)], S)) rfl ?_
  refine x_mmin rfl lk_6_274 wm_min.1 wm_min.2.1 wm_min.2.2 (Nat.le_of_ble_eq_true rfl) (by decide) ?_
  refine x_top (v' := nI (min sz 24)) (minN (by omega) (by decide)) ?_
  refine run_ok 5 (c' := (58, [(0, .ref 0), (1, .int (nI k)), (2, .int (nI 2)), (3, .ref 42), (4, .int (nI (min sz 24)))], [.ref 5, .ref 23], S)) rfl ?_
  refine x_callV [.ref 5] rfl cv_V_begin.1 lk_6_279 cv_V_begin.2.1 cv_V_begin.2.2.1 rfl cv_V_begin.2.2.2.1 rfl rfl (Nat.le_of_ble_eq_true rfl) (by decide) cv_V_begin.2.2.2.2 (c_begin5 S T hT hto) ?_
  rintro r z ⟨hr, hCz, hfz, h2z⟩
  rw [hr]
  clear hr r
  refine run_ok 2 (c' := (64, [(0, .ref 0), (1, .int (nI k)), (2, .int (nI 2)), (3, .ref 42), (4, .int (nI (min sz 24))), (5, .int (nI 0))], [], z)) rfl ?_
  exact H 0 (Nat.zero_le _) z (hCz.ls (fun _ _ => rfl)) (fun j hj => absurd hj (Nat.not_lt_zero _)) (fun j _ => by rw [hfz 43 (by decide)]) (hfz.sub (by decide))

set_option maxHeartbeats 2000000 in
theorem c_write_null3 (S : ST) (T : TD) (hT : TR 5 T S) (hto : tok T) (hne : tne T ≤ 8) (lo fm sz : Nat) (hH : HR 44 lo fm sz S) (hlo : lo = 1) (k : Nat) (hk : k < tnb T) : EX me_N_write 5 [.ref 0, .int (nI k), .int (nI 3)] S (fun r u => r = some (.int ((-10) - nI 1)) ∧ u = pt S 0 10 (nI 1)) := by
  refine EX.of mok_N_write (Nat.le_of_ble_eq_true rfl) ?_
  obtain ⟨n8, n9, hbt, het, hht, hlo⟩ := id hto
  obtain ⟨t1, t2, t3, t4, t5, t6, t7, t8, t9, t10, t11⟩ := id hT
  obtain ⟨g3, g1, g2, hl1, hf2, hs60⟩ := id hH
  refine run_ok 2 (c' := (2, [(0, .ref 0), (1, .int (nI k)), (2, .int (nI 3))], [.int (nI k), .ref 0], S)) rfl ?_
  refine x_callV [.int (nI k)] rfl cv_N_isBoat.1 lk_6_107 cv_N_isBoat.2.1 cv_N_isBoat.2.2.1 rfl cv_N_isBoat.2.2.2.1 rfl rfl (Nat.le_of_ble_eq_true rfl) (by decide) cv_N_isBoat.2.2.2.2 (c_isBoat S (nI k) (tnb T) t9) ?_
  rintro r u ⟨hr, hu⟩
  rw [hr, hu]
  clear hr hu r u
  refine x_ifB_eq 16 rfl rfl (fun hn => absurd hn (fun z => z (inr_t hk (by omega)))) (fun h5 => ?_)
  refine run_ok 2 (c' := (10, [(0, .ref 0), (1, .int (nI k)), (2, .int (nI 3))], [.int (nI 4), .int (nI 3)], S)) rfl ?_
  refine x_callS [.int (nI 3), .int (nI 4)] rfl cs_N_isBelow.1 lk_6_73 cs_N_isBelow.2.1 rfl rfl (Nat.le_of_ble_eq_true rfl) (by decide) cs_N_isBelow.2.2 (c_isBelow S (nI 3) (nI 4)) ?_
  rintro r u ⟨hr, hu⟩
  rw [hr, hu]
  clear hr hu r u
  refine x_ifB_ne 19 rfl rfl (fun h13 => ?_) (fun hn => absurd (inr_t (by decide) (by decide)) hn)
  refine run_ok 3 (c' := (24, [(0, .ref 0), (1, .int (nI k)), (2, .int (nI 3))], [.int (nI 3), .ref 37], S)) rfl ?_
  refine x_aald (t := 44) rfl rfl (vp_in_nI (by decide) (by decide)) (by decide) ?_
  refine run_ok 3 (c' := (30, [(0, .ref 0), (1, .int (nI k)), (2, .int (nI 3)), (3, .ref 44)], [.int (S.1 44 3)], S)) rfl ?_
  refine x_top (v' := nI lo) g3 ?_
  refine x_ifN_eq 39 rfl rfl (by omega) (fun hn => absurd hn (by omega)) (fun h30 => ?_)
  refine run_ok 2 (c' := (35, [(0, .ref 0), (1, .int (nI k)), (2, .int (nI 3)), (3, .ref 44)], [.int (nI 1), .ref 0], S)) rfl ?_
  refine x_callV [.int (nI 1)] rfl cv_N_find.1 lk_6_134 cv_N_find.2.1 cv_N_find.2.2.1 rfl cv_N_find.2.2.2.1 rfl rfl (Nat.le_of_ble_eq_true rfl) (by decide) cv_N_find.2.2.2.2 (c_find S (1)) ?_
  rintro r x ⟨hr, hu⟩
  rw [hr, hu]
  clear hr hu r x
  exact x_ret (r := some (.int ((-10) - nI 1))) rfl rfl trivial ⟨rfl, rfl⟩ rfl

set_option maxHeartbeats 2000000 in
theorem c_write_ok3 (S : ST) (T : TD) (hT : TR 5 T S) (hto : tok T) (hne : tne T ≤ 8) (lo fm sz : Nat) (hH : HR 44 lo fm sz S) (hlo0 : lo = 0) (k : Nat) (hk : k < tnb T) : EX me_N_write 5 [.ref 0, .int (nI k), .int (nI 3)] S (fun r u => r = some (.int (nI (min sz 24))) ∧ (∀ j, j < min sz 24 → u.1 45 j = cvt fm (nI (vgr (vo T (j + 1)) k))) ∧ (∀ j, min sz 24 ≤ j → u.1 45 j = S.1 45 j) ∧ fr (45 :: VL) S u) := by
  refine EX.of mok_N_write (Nat.le_of_ble_eq_true rfl) ?_
  obtain ⟨n8, n9, hbt, het, hht, hlo⟩ := id hto
  obtain ⟨t1, t2, t3, t4, t5, t6, t7, t8, t9, t10, t11⟩ := id hT
  obtain ⟨g3, g1, g2, hl1, hf2, hs60⟩ := id hH
  have hmn : min sz 24 ≤ 24 := Nat.min_le_right _ _
  have hmz : min sz 24 ≤ sz := Nat.min_le_left _ _
  have H : ∀ w, w ≤ min sz 24 → ∀ v : ST, CR 5 T (vo T w) (lsn T w) v → (∀ j, j < w → v.1 45 j = cvt fm (nI (vgr (vo T (j + 1)) k))) → (∀ j, w ≤ j → v.1 45 j = S.1 45 j) → fr (45 :: VL) S v → BX me_N_write 5 none (fun r u => r = some (.int (nI (min sz 24))) ∧ (∀ j, j < min sz 24 → u.1 45 j = cvt fm (nI (vgr (vo T (j + 1)) k))) ∧ (∀ j, min sz 24 ≤ j → u.1 45 j = S.1 45 j) ∧ fr (45 :: VL) S u) (64, [(0, .ref 0), (1, .int (nI k)), (2, .int (nI 3)), (3, .ref 44), (4, .int (nI (min sz 24))), (5, .int (nI w))], [], v) := by
    refine loop_up (P := fun w => ∀ v : ST, CR 5 T (vo T w) (lsn T w) v → (∀ j, j < w → v.1 45 j = cvt fm (nI (vgr (vo T (j + 1)) k))) → (∀ j, w ≤ j → v.1 45 j = S.1 45 j) → fr (45 :: VL) S v → BX me_N_write 5 none (fun r u => r = some (.int (nI (min sz 24))) ∧ (∀ j, j < min sz 24 → u.1 45 j = cvt fm (nI (vgr (vo T (j + 1)) k))) ∧ (∀ j, min sz 24 ≤ j → u.1 45 j = S.1 45 j) ∧ fr (45 :: VL) S u) (64, [(0, .ref 0), (1, .int (nI k)), (2, .int (nI 3)), (3, .ref 44), (4, .int (nI (min sz 24))), (5, .int (nI w))], [], v)) (min sz 24) ?_ ?_
    · intro v hC ha hb hf
      refine run_ok 2 (c' := (68, [(0, .ref 0), (1, .int (nI k)), (2, .int (nI 3)), (3, .ref 44), (4, .int (nI (min sz 24))), (5, .int (nI (min sz 24)))], [.int (nI (min sz 24)), .int (nI (min sz 24))], v)) rfl ?_
      refine x_icmpN_ge 101 rfl rfl (by omega) (by omega) (fun h68 => ?_) (fun hn => absurd (Nat.le_refl _) hn)
      refine run_ok 1 (c' := (103, [(0, .ref 0), (1, .int (nI k)), (2, .int (nI 3)), (3, .ref 44), (4, .int (nI (min sz 24))), (5, .int (nI (min sz 24)))], [.int (nI (min sz 24))], v)) rfl ?_
      exact x_ret (r := some (.int (nI (min sz 24)))) rfl rfl trivial ⟨rfl, ha, hb, hf⟩ rfl
    · intro w hw ih v hC ha hb hf
      refine run_ok 2 (c' := (68, [(0, .ref 0), (1, .int (nI k)), (2, .int (nI 3)), (3, .ref 44), (4, .int (nI (min sz 24))), (5, .int (nI w))], [.int (nI (min sz 24)), .int (nI w)], v)) rfl ?_
      refine x_icmpN_ge 101 rfl rfl (by omega) (by omega) (fun hn => absurd hn (show ¬ min sz 24 ≤ w by omega)) (fun h68 => ?_)
      refine run_ok 3 (c' := (77, [(0, .ref 0), (1, .int (nI k)), (2, .int (nI 3)), (3, .ref 44), (4, .int (nI (min sz 24))), (5, .int (nI w))], [.int (nI w), .ref 23], v)) rfl ?_
      refine x_callV [.int (nI w)] rfl cv_V_sail.1 lk_6_282 cv_V_sail.2.1 cv_V_sail.2.2.1 rfl cv_V_sail.2.2.2.1 rfl rfl (Nat.le_of_ble_eq_true rfl) (by decide) cv_V_sail.2.2.2.2 (c_sail5 v T (vo T w) (lsn T w) w (hT.keep hf (by decide)) hto hC (vk_vo hto w (by omega)).1 (vk_vo hto w (by omega)).2 (by omega)) ?_
      rintro r z ⟨hr, hCz, hfz, h2z⟩
      rw [hr]
      clear hr r
      have hCz := hCz.ls (fun k hk => lsn_s hk)
      have h27 : rh z 27 (tnb T) (vgr (vo T (w + 1))) := hCz.2.2.2.1
      have hHz : HR 44 lo fm sz z := hH.keep (by rw [hfz 44 (by decide), hf 44 (by decide)])
      refine run_ok 6 (c' := (91, [(0, .ref 0), (1, .int (nI k)), (2, .int (nI 3)), (3, .ref 44), (4, .int (nI (min sz 24))), (5, .int (nI w))], [.int (nI k), .ref 27, .int (nI w), .ref 44], z)) rfl ?_
      refine x_iaN (nI (vgr (vo T (w + 1)) k)) rfl rfl (by decide) (by omega) (h27 k (by omega)) ?_
      refine x_callV [.int (nI w), .int (nI (vgr (vo T (w + 1)) k))] rfl cv_H_set.1 lk_6_258 cv_H_set.2.1 cv_H_set.2.2.1 rfl cv_H_set.2.2.2.1 rfl rfl (Nat.le_of_ble_eq_true rfl) (by decide) cv_H_set.2.2.2.2 (c_set3 z lo fm sz hHz w (nI (vgr (vo T (w + 1)) k)) (by omega)) ?_
      rintro r x ⟨hr, hu⟩
      rw [hr, hu]
      clear hr hu r x
      refine run_ok 1 (c' := (98, [(0, .ref 0), (1, .int (nI k)), (2, .int (nI 3)), (3, .ref 44), (4, .int (nI (min sz 24))), (5, .int (nI w + nI 1))], [], (pt z 45 w (cvt fm (nI (vgr (vo T (w + 1)) k)))))) rfl ?_
      rw [nI_add w 1]
      refine run_ok 1 (c' := (64, [(0, .ref 0), (1, .int (nI k)), (2, .int (nI 3)), (3, .ref 44), (4, .int (nI (min sz 24))), (5, .int (nI (w + 1)))], [], (pt z 45 w (cvt fm (nI (vgr (vo T (w + 1)) k)))))) rfl ?_
      refine ih _ ?_ (fun j hj => ?_) (fun j hj => ?_) ((hf.tr (hfz.sub (by decide))).pt (by decide))
      · obtain ⟨h24, h25, h26, h27, h28, h29, hsr, g9, g10, g11, htl⟩ := hCz
        exact ⟨h24, h25, h26, h27, h28, h29, hsr, g9, g10, g11, htl⟩
      · show upd (z.1 45) w _ j = _
        by_cases e : j = w
        · rw [e, upd_s]
        · rw [upd_n e, hfz 45 (by decide)]; exact ha j (by omega)
      · show upd (z.1 45) w _ j = _
        rw [upd_n (by omega), hfz 45 (by decide)]; exact hb j (by omega)
  refine run_ok 2 (c' := (2, [(0, .ref 0), (1, .int (nI k)), (2, .int (nI 3))], [.int (nI k), .ref 0], S)) rfl ?_
  refine x_callV [.int (nI k)] rfl cv_N_isBoat.1 lk_6_107 cv_N_isBoat.2.1 cv_N_isBoat.2.2.1 rfl cv_N_isBoat.2.2.2.1 rfl rfl (Nat.le_of_ble_eq_true rfl) (by decide) cv_N_isBoat.2.2.2.2 (c_isBoat S (nI k) (tnb T) t9) ?_
  rintro r u ⟨hr, hu⟩
  rw [hr, hu]
  clear hr hu r u
  refine x_ifB_eq 16 rfl rfl (fun hn => absurd hn (fun z => z (inr_t hk (by omega)))) (fun h5 => ?_)
  refine run_ok 2 (c' := (10, [(0, .ref 0), (1, .int (nI k)), (2, .int (nI 3))], [.int (nI 4), .int (nI 3)], S)) rfl ?_
  refine x_callS [.int (nI 3), .int (nI 4)] rfl cs_N_isBelow.1 lk_6_73 cs_N_isBelow.2.1 rfl rfl (Nat.le_of_ble_eq_true rfl) (by decide) cs_N_isBelow.2.2 (c_isBelow S (nI 3) (nI 4)) ?_
  rintro r u ⟨hr, hu⟩
  rw [hr, hu]
  clear hr hu r u
  refine x_ifB_ne 19 rfl rfl (fun h13 => ?_) (fun hn => absurd (inr_t (by decide) (by decide)) hn)
  refine run_ok 3 (c' := (24, [(0, .ref 0), (1, .int (nI k)), (2, .int (nI 3))], [.int (nI 3), .ref 37], S)) rfl ?_
  refine x_aald (t := 44) rfl rfl (vp_in_nI (by decide) (by decide)) (by decide) ?_
  refine run_ok 3 (c' := (30, [(0, .ref 0), (1, .int (nI k)), (2, .int (nI 3)), (3, .ref 44)], [.int (S.1 44 3)], S)) rfl ?_
  refine x_top (v' := nI lo) g3 ?_
  refine x_ifN_eq 39 rfl rfl (by omega) (fun h30 => ?_) (fun hn => absurd hlo0 hn)
  refine run_ok 2 (c' := (43, [(0, .ref 0), (1, .int (nI k)), (2, .int (nI 3)), (3, .ref 44)], [.int (S.1 44 2)], S)) rfl ?_
  refine x_top (v' := nI sz) g2 ?_
  refine run_ok 1 (c' := (45, [(0, .ref 0), (1, .int (nI k)), (2, .int (nI 3)), (3, .ref 44)], [.int (nI 24), .int (nI sz)], S)) rfl ?_
  refine x_mmin rfl lk_6_274 wm_min.1 wm_min.2.1 wm_min.2.2 (Nat.le_of_ble_eq_true rfl) (by decide) ?_
  refine x_top (v' := nI (min sz 24)) (minN (by omega) (by decide)) ?_
  refine run_ok 5 (c' := (58, [(0, .ref 0), (1, .int (nI k)), (2, .int (nI 3)), (3, .ref 44), (4, .int (nI (min sz 24)))], [.ref 5, .ref 23], S)) rfl ?_
  refine x_callV [.ref 5] rfl cv_V_begin.1 lk_6_279 cv_V_begin.2.1 cv_V_begin.2.2.1 rfl cv_V_begin.2.2.2.1 rfl rfl (Nat.le_of_ble_eq_true rfl) (by decide) cv_V_begin.2.2.2.2 (c_begin5 S T hT hto) ?_
  rintro r z ⟨hr, hCz, hfz, h2z⟩
  rw [hr]
  clear hr r
  refine run_ok 2 (c' := (64, [(0, .ref 0), (1, .int (nI k)), (2, .int (nI 3)), (3, .ref 44), (4, .int (nI (min sz 24))), (5, .int (nI 0))], [], z)) rfl ?_
  exact H 0 (Nat.zero_le _) z (hCz.ls (fun _ _ => rfl)) (fun j hj => absurd hj (Nat.not_lt_zero _)) (fun j _ => by rw [hfz 45 (by decide)]) (hfz.sub (by decide))

set_option maxHeartbeats 2000000 in
theorem c_count0 (S : ST)  : EX me_N_count 0 [.ref 0, .int (nI 0)] S (fun r u => r = some (.int (S.1 5 1)) ∧ u = S) := by
  refine EX.of mok_N_count (Nat.le_of_ble_eq_true rfl) ?_
  refine run_ok 1 (c' := (1, [(0, .ref 0), (1, .int (nI 0))], [.int (nI 0)], S)) rfl ?_
  refine x_tabIn 52 rfl (by decide) (by decide) rfl rfl ?_
  refine run_ok 3 (c' := (59, [(0, .ref 0), (1, .int (nI 0))], [.int (S.1 5 1)], S)) rfl ?_
  exact x_ret (r := some (.int (S.1 5 1))) rfl rfl trivial ⟨rfl, rfl⟩ rfl

set_option maxHeartbeats 2000000 in
theorem c_count2 (S : ST)  : EX me_N_count 0 [.ref 0, .int (nI 2)] S (fun r u => r = some (.int (S.1 1 1)) ∧ u = S) := by
  refine EX.of mok_N_count (Nat.le_of_ble_eq_true rfl) ?_
  refine run_ok 1 (c' := (1, [(0, .ref 0), (1, .int (nI 2))], [.int (nI 2)], S)) rfl ?_
  refine x_tabIn 68 rfl (by decide) (by decide) rfl rfl ?_
  refine run_ok 3 (c' := (75, [(0, .ref 0), (1, .int (nI 2))], [.int (S.1 1 1)], S)) rfl ?_
  exact x_ret (r := some (.int (S.1 1 1))) rfl rfl trivial ⟨rfl, rfl⟩ rfl

set_option maxHeartbeats 2000000 in
theorem c_count3 (S : ST)  : EX me_N_count 0 [.ref 0, .int (nI 3)] S (fun r u => r = some (.int (S.1 3 1)) ∧ u = S) := by
  refine EX.of mok_N_count (Nat.le_of_ble_eq_true rfl) ?_
  refine run_ok 1 (c' := (1, [(0, .ref 0), (1, .int (nI 3))], [.int (nI 3)], S)) rfl ?_
  refine x_tabIn 76 rfl (by decide) (by decide) rfl rfl ?_
  refine run_ok 3 (c' := (83, [(0, .ref 0), (1, .int (nI 3))], [.int (S.1 3 1)], S)) rfl ?_
  exact x_ret (r := some (.int (S.1 3 1))) rfl rfl trivial ⟨rfl, rfl⟩ rfl

set_option maxHeartbeats 2000000 in
theorem c_count7 (S : ST)  : EX me_N_count 0 [.ref 0, .int (nI 7)] S (fun r u => r = some (.int (S.1 32 3)) ∧ u = S) := by
  refine EX.of mok_N_count (Nat.le_of_ble_eq_true rfl) ?_
  refine run_ok 1 (c' := (1, [(0, .ref 0), (1, .int (nI 7))], [.int (nI 7)], S)) rfl ?_
  refine x_tabIn 135 rfl (by decide) (by decide) rfl rfl ?_
  refine run_ok 3 (c' := (142, [(0, .ref 0), (1, .int (nI 7))], [.int (S.1 32 3)], S)) rfl ?_
  exact x_ret (r := some (.int (S.1 32 3))) rfl rfl trivial ⟨rfl, rfl⟩ rfl

set_option maxHeartbeats 2000000 in
theorem c_count8 (S : ST)  : EX me_N_count 0 [.ref 0, .int (nI 8)] S (fun r u => r = some (.int (S.1 0 10)) ∧ u = S) := by
  refine EX.of mok_N_count (Nat.le_of_ble_eq_true rfl) ?_
  refine run_ok 1 (c' := (1, [(0, .ref 0), (1, .int (nI 8))], [.int (nI 8)], S)) rfl ?_
  refine x_tabIn 143 rfl (by decide) (by decide) rfl rfl ?_
  refine run_ok 2 (c' := (147, [(0, .ref 0), (1, .int (nI 8))], [.int (S.1 0 10)], S)) rfl ?_
  exact x_ret (r := some (.int (S.1 0 10))) rfl rfl trivial ⟨rfl, rfl⟩ rfl

set_option maxHeartbeats 2000000 in
theorem c_count1 (S : ST) (T : TD) (hT : TR 5 T S) : EX me_N_count 0 [.ref 0, .int (nI 1)] S (fun r u => r = some (.int (nI (tnb T))) ∧ u = S) := by
  refine EX.of mok_N_count (Nat.le_of_ble_eq_true rfl) ?_
  obtain ⟨t1, t2, t3, t4, t5, t6, t7, t8, t9, t10, t11⟩ := id hT
  refine run_ok 1 (c' := (1, [(0, .ref 0), (1, .int (nI 1))], [.int (nI 1)], S)) rfl ?_
  refine x_tabIn 60 rfl (by decide) (by decide) rfl rfl ?_
  refine run_ok 3 (c' := (67, [(0, .ref 0), (1, .int (nI 1))], [.int (S.1 5 6)], S)) rfl ?_
  refine x_top (v' := nI (tnb T)) t9 ?_
  exact x_ret (r := some (.int (nI (tnb T)))) rfl rfl trivial ⟨rfl, rfl⟩ rfl

set_option maxHeartbeats 2000000 in
theorem c_count4 (S : ST) (T : TD) (hT : TR 5 T S) : EX me_N_count 0 [.ref 0, .int (nI 4)] S (fun r u => r = some (.int (nI (tne T))) ∧ u = S) := by
  refine EX.of mok_N_count (Nat.le_of_ble_eq_true rfl) ?_
  obtain ⟨t1, t2, t3, t4, t5, t6, t7, t8, t9, t10, t11⟩ := id hT
  refine run_ok 1 (c' := (1, [(0, .ref 0), (1, .int (nI 4))], [.int (nI 4)], S)) rfl ?_
  refine x_tabIn 84 rfl (by decide) (by decide) rfl rfl ?_
  refine run_ok 3 (c' := (91, [(0, .ref 0), (1, .int (nI 4))], [.int (S.1 5 10)], S)) rfl ?_
  refine x_top (v' := nI (tne T)) t10 ?_
  exact x_ret (r := some (.int (nI (tne T)))) rfl rfl trivial ⟨rfl, rfl⟩ rfl

set_option maxHeartbeats 2000000 in
theorem c_count5 (S : ST) (T : TD) (hT : TR 5 T S) (hto : tok T) : EX me_N_count 5 [.ref 0, .int (nI 5)] S (fun r u => r = some (.int (nI (cnt (fun k => decide (vis (vo T 24) k = 2)) (tnb T)))) ∧ fr CQ S u) := by
  refine EX.of mok_N_count (Nat.le_of_ble_eq_true rfl) ?_
  obtain ⟨n8, n9, hbt, het, hht, hlo⟩ := id hto
  obtain ⟨t1, t2, t3, t4, t5, t6, t7, t8, t9, t10, t11⟩ := id hT
  refine run_ok 1 (c' := (1, [(0, .ref 0), (1, .int (nI 5))], [.int (nI 5)], S)) rfl ?_
  refine x_tabIn 92 rfl (by decide) (by decide) rfl rfl ?_
  refine run_ok 5 (c' := (102, [(0, .ref 0), (1, .int (nI 5))], [.int (nI 23), .ref 5, .ref 23], S)) rfl ?_
  refine x_callV [.ref 5, .int (nI 23)] rfl cv_V_run.1 lk_6_146 cv_V_run.2.1 cv_V_run.2.2.1 rfl cv_V_run.2.2.2.1 rfl rfl (Nat.le_of_ble_eq_true rfl) (by decide) cv_V_run.2.2.2.2 (c_run5 S T 23 hT hto (by omega)) ?_
  rintro r u ⟨hr, hCu, hfu, h2u⟩
  rw [hr]
  clear hr r
  have hTu : TR 5 T u := hT.keep hfu (by decide)
  obtain ⟨t1, t2, t3, t4, t5, t6, t7, t8, t9, t10, t11⟩ := id hTu
  obtain ⟨h24, h25, h26, h27, h28, h29, hsr, g9, g10, g11, htl⟩ := id hCu
  have hVu : vk T (vo T 24) := (vk_vo hto (23 + 1) (by omega)).1
  refine run_ok 3 (c' := (110, [(0, .ref 0), (1, .int (nI 5))], [.int (nI 2), .ref 23], u)) rfl ?_
  refine x_callV [.int (nI 2)] rfl cv_V_howMany.1 lk_6_161 cv_V_howMany.2.1 cv_V_howMany.2.2.1 rfl cv_V_howMany.2.2.2.1 rfl rfl (Nat.le_of_ble_eq_true rfl) (by decide) cv_V_howMany.2.2.2.2 (c_howMany5 u T (vo T 24) _ hTu hto hCu hVu 2 (by decide)) ?_
  rintro r v ⟨hr, hu⟩
  rw [hr, hu]
  clear hr hu r v
  exact x_ret (r := some (.int (nI (cnt (fun k => decide (vis (vo T 24) k = 2)) (tnb T))))) rfl rfl trivial ⟨rfl, hfu.sub (by decide)⟩ rfl

set_option maxHeartbeats 2000000 in
theorem c_count6 (S : ST) (T : TD) (hT : TR 5 T S) (hto : tok T) : EX me_N_count 5 [.ref 0, .int (nI 6)] S (fun r u => r = some (.int (nI (sha_ (vh (vo T 24)) 8))) ∧ fr CQ S u) := by
  refine EX.of mok_N_count (Nat.le_of_ble_eq_true rfl) ?_
  obtain ⟨n8, n9, hbt, het, hht, hlo⟩ := id hto
  obtain ⟨t1, t2, t3, t4, t5, t6, t7, t8, t9, t10, t11⟩ := id hT
  refine run_ok 1 (c' := (1, [(0, .ref 0), (1, .int (nI 6))], [.int (nI 6)], S)) rfl ?_
  refine x_tabIn 114 rfl (by decide) (by decide) rfl rfl ?_
  refine run_ok 5 (c' := (124, [(0, .ref 0), (1, .int (nI 6))], [.int (nI 23), .ref 5, .ref 23], S)) rfl ?_
  refine x_callV [.ref 5, .int (nI 23)] rfl cv_V_run.1 lk_6_146 cv_V_run.2.1 cv_V_run.2.2.1 rfl cv_V_run.2.2.2.1 rfl rfl (Nat.le_of_ble_eq_true rfl) (by decide) cv_V_run.2.2.2.2 (c_run5 S T 23 hT hto (by omega)) ?_
  rintro r u ⟨hr, hCu, hfu, h2u⟩
  rw [hr]
  clear hr r
  have hTu : TR 5 T u := hT.keep hfu (by decide)
  obtain ⟨t1, t2, t3, t4, t5, t6, t7, t8, t9, t10, t11⟩ := id hTu
  obtain ⟨h24, h25, h26, h27, h28, h29, hsr, g9, g10, g11, htl⟩ := id hCu
  have hVu : vk T (vo T 24) := (vk_vo hto (23 + 1) (by omega)).1
  refine run_ok 2 (c' := (131, [(0, .ref 0), (1, .int (nI 6))], [.ref 23], u)) rfl ?_
  refine x_callV [] rfl cv_V_allHatred.1 lk_6_291 cv_V_allHatred.2.1 cv_V_allHatred.2.2.1 rfl cv_V_allHatred.2.2.2.1 rfl rfl (Nat.le_of_ble_eq_true rfl) (by decide) cv_V_allHatred.2.2.2.2 (c_allHatred u (vo T 24) h24) ?_
  rintro r v ⟨hr, hu⟩
  rw [hr, hu]
  clear hr hu r v
  exact x_ret (r := some (.int (nI (sha_ (vh (vo T 24)) 8)))) rfl rfl trivial ⟨rfl, hfu.sub (by decide)⟩ rfl

set_option maxHeartbeats 2000000 in
theorem c_count_bad (S : ST) (x : Int32) (hbad : ¬ (0 ≤ x ∧ x < nI 9)) : EX me_N_count 0 [.ref 0, .int x] S (fun r u => r = some (.int (-2)) ∧ u = S) := by
  refine EX.of mok_N_count (Nat.le_of_ble_eq_true rfl) ?_
  refine run_ok 1 (c' := (1, [(0, .ref 0), (1, .int x)], [.int x], S)) rfl ?_
  refine x_tabOut 148 rfl (inr_o (n := 9) (by decide) (by decide) hbad) rfl ?_
  refine run_ok 1 (c' := (150, [(0, .ref 0), (1, .int x)], [.int (-2)], S)) rfl ?_
  exact x_ret (r := some (.int (-2))) rfl rfl trivial ⟨rfl, rfl⟩ rfl


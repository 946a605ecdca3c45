/-! the same contracts, with what the weights are behind them; digests of a boat, of a person -/
set_option maxHeartbeats 2000000 in
theorem c_at_ok0S (S : ST) (T : TD) (hT : TR 5 T S) (hto : tok T) (w k : Nat) (hw : w < 24) (hk : k < tnb T) : EX me_N_at 5 [.ref 0, .int (nI w), .int (nI k), .int (nI 0)] S (fun r u => r = some (.int (nI (vis (vo T (w + 1)) k))) ∧ fr CQ S u ∧ u.2.1 = S.2.1) := by
  refine EX.of mok_N_at (Nat.le_of_ble_eq_true rfl) ?_
  obtain ⟨n8, n9, hbt, het, hht, hlo⟩ := id hto
  obtain ⟨t1, t2, t3, t4, t5, t6, t7, t8, t9, t10, t11⟩ := id hT
  refine run_ok 2 (c' := (3, [(0, .ref 0), (1, .int (nI w)), (2, .int (nI k)), (3, .int (nI 0))], [.int (nI 24), .int (nI w)], S)) rfl ?_
  refine x_callS [.int (nI w), .int (nI 24)] rfl cs_N_isBelow.1 lk_6_73 cs_N_isBelow.2.1 rfl rfl (Nat.le_of_ble_eq_true rfl) (by decide) cs_N_isBelow.2.2 (c_isBelow S (nI w) (nI 24)) ?_
  rintro r u ⟨hr, hu⟩
  rw [hr, hu]
  clear hr hu r u
  refine x_ifB_eq 25 rfl rfl (fun hn => absurd hn (fun z => z (inr_t hw (by decide)))) (fun h6 => ?_)
  refine run_ok 2 (c' := (11, [(0, .ref 0), (1, .int (nI w)), (2, .int (nI k)), (3, .int (nI 0))], [.int (nI k), .ref 0], S)) rfl ?_
  refine x_callV [.int (nI k)] rfl cv_N_isBoat.1 lk_6_107 cv_N_isBoat.2.1 cv_N_isBoat.2.2.1 rfl cv_N_isBoat.2.2.2.1 rfl rfl (Nat.le_of_ble_eq_true rfl) (by decide) cv_N_isBoat.2.2.2.2 (c_isBoat S (nI k) (tnb T) t9) ?_
  rintro r u ⟨hr, hu⟩
  rw [hr, hu]
  clear hr hu r u
  refine x_ifB_eq 25 rfl rfl (fun hn => absurd hn (fun z => z (inr_t hk (by omega)))) (fun h14 => ?_)
  refine run_ok 2 (c' := (19, [(0, .ref 0), (1, .int (nI w)), (2, .int (nI k)), (3, .int (nI 0))], [.int (nI 4), .int (nI 0)], S)) rfl ?_
  refine x_callS [.int (nI 0), .int (nI 4)] rfl cs_N_isBelow.1 lk_6_73 cs_N_isBelow.2.1 rfl rfl (Nat.le_of_ble_eq_true rfl) (by decide) cs_N_isBelow.2.2 (c_isBelow S (nI 0) (nI 4)) ?_
  rintro r u ⟨hr, hu⟩
  rw [hr, hu]
  clear hr hu r u
  refine x_ifB_ne 28 rfl rfl (fun h22 => ?_) (fun hn => absurd (inr_t (by decide) (by decide)) hn)
  refine run_ok 5 (c' := (37, [(0, .ref 0), (1, .int (nI w)), (2, .int (nI k)), (3, .int (nI 0))], [.int (nI w), .ref 5, .ref 23], S)) rfl ?_
  refine x_callV [.ref 5, .int (nI w)] rfl cv_V_run.1 lk_6_146 cv_V_run.2.1 cv_V_run.2.2.1 rfl cv_V_run.2.2.2.1 rfl rfl (Nat.le_of_ble_eq_true rfl) (by decide) cv_V_run.2.2.2.2 (c_run5 S T w hT hto (by omega)) ?_
  rintro r u ⟨hr, hCu, hfu, h2u⟩
  rw [hr]
  clear hr r
  have hTu : TR 5 T u := hT.keep hfu (by decide)
  obtain ⟨t1, t2, t3, t4, t5, t6, t7, t8, t9, t10, t11⟩ := id hTu
  obtain ⟨h24, h25, h26, h27, h28, h29, hsr, g9, g10, g11, htl⟩ := id hCu
  have hVu : vk T (vo T (w + 1)) := (vk_vo hto (w + 1) (by omega)).1
  refine run_ok 1 (c' := (41, [(0, .ref 0), (1, .int (nI w)), (2, .int (nI k)), (3, .int (nI 0))], [.int (nI 0)], u)) rfl ?_
  refine x_tabIn 68 rfl (by decide) (by decide) rfl rfl ?_
  refine run_ok 4 (c' := (76, [(0, .ref 0), (1, .int (nI w)), (2, .int (nI k)), (3, .int (nI 0))], [.int (nI k), .ref 25], u)) rfl ?_
  refine x_iaN (nI (vis (vo T (w + 1)) k)) rfl rfl (by decide) (by omega) (h25 k (by omega)) ?_
  exact x_ret (r := some (.int (nI (vis (vo T (w + 1)) k)))) rfl rfl trivial ⟨rfl, hfu.sub (by decide), h2u⟩ rfl

set_option maxHeartbeats 2000000 in
theorem c_at_ok1S (S : ST) (T : TD) (hT : TR 5 T S) (hto : tok T) (w k : Nat) (hw : w < 24) (hk : k < tnb T) : EX me_N_at 5 [.ref 0, .int (nI w), .int (nI k), .int (nI 1)] S (fun r u => r = some (.int (nmv (vnm (vo T (w + 1)) k))) ∧ fr CQ S u ∧ u.2.1 = S.2.1) := by
  refine EX.of mok_N_at (Nat.le_of_ble_eq_true rfl) ?_
  obtain ⟨n8, n9, hbt, het, hht, hlo⟩ := id hto
  obtain ⟨t1, t2, t3, t4, t5, t6, t7, t8, t9, t10, t11⟩ := id hT
  refine run_ok 2 (c' := (3, [(0, .ref 0), (1, .int (nI w)), (2, .int (nI k)), (3, .int (nI 1))], [.int (nI 24), .int (nI w)], S)) rfl ?_
  refine x_callS [.int (nI w), .int (nI 24)] rfl cs_N_isBelow.1 lk_6_73 cs_N_isBelow.2.1 rfl rfl (Nat.le_of_ble_eq_true rfl) (by decide) cs_N_isBelow.2.2 (c_isBelow S (nI w) (nI 24)) ?_
  rintro r u ⟨hr, hu⟩
  rw [hr, hu]
  clear hr hu r u
  refine x_ifB_eq 25 rfl rfl (fun hn => absurd hn (fun z => z (inr_t hw (by decide)))) (fun h6 => ?_)
  refine run_ok 2 (c' := (11, [(0, .ref 0), (1, .int (nI w)), (2, .int (nI k)), (3, .int (nI 1))], [.int (nI k), .ref 0], S)) rfl ?_
  refine x_callV [.int (nI k)] rfl cv_N_isBoat.1 lk_6_107 cv_N_isBoat.2.1 cv_N_isBoat.2.2.1 rfl cv_N_isBoat.2.2.2.1 rfl rfl (Nat.le_of_ble_eq_true rfl) (by decide) cv_N_isBoat.2.2.2.2 (c_isBoat S (nI k) (tnb T) t9) ?_
  rintro r u ⟨hr, hu⟩
  rw [hr, hu]
  clear hr hu r u
  refine x_ifB_eq 25 rfl rfl (fun hn => absurd hn (fun z => z (inr_t hk (by omega)))) (fun h14 => ?_)
  refine run_ok 2 (c' := (19, [(0, .ref 0), (1, .int (nI w)), (2, .int (nI k)), (3, .int (nI 1))], [.int (nI 4), .int (nI 1)], S)) rfl ?_
  refine x_callS [.int (nI 1), .int (nI 4)] rfl cs_N_isBelow.1 lk_6_73 cs_N_isBelow.2.1 rfl rfl (Nat.le_of_ble_eq_true rfl) (by decide) cs_N_isBelow.2.2 (c_isBelow S (nI 1) (nI 4)) ?_
  rintro r u ⟨hr, hu⟩
  rw [hr, hu]
  clear hr hu r u
  refine x_ifB_ne 28 rfl rfl (fun h22 => ?_) (fun hn => absurd (inr_t (by decide) (by decide)) hn)
  refine run_ok 5 (c' := (37, [(0, .ref 0), (1, .int (nI w)), (2, .int (nI k)), (3, .int (nI 1))], [.int (nI w), .ref 5, .ref 23], S)) rfl ?_
  refine x_callV [.ref 5, .int (nI w)] rfl cv_V_run.1 lk_6_146 cv_V_run.2.1 cv_V_run.2.2.1 rfl cv_V_run.2.2.2.1 rfl rfl (Nat.le_of_ble_eq_true rfl) (by decide) cv_V_run.2.2.2.2 (c_run5 S T w hT hto (by omega)) ?_
  rintro r u ⟨hr, hCu, hfu, h2u⟩
  rw [hr]
  clear hr r
  have hTu : TR 5 T u := hT.keep hfu (by decide)
  obtain ⟨t1, t2, t3, t4, t5, t6, t7, t8, t9, t10, t11⟩ := id hTu
  obtain ⟨h24, h25, h26, h27, h28, h29, hsr, g9, g10, g11, htl⟩ := id hCu
  have hVu : vk T (vo T (w + 1)) := (vk_vo hto (w + 1) (by omega)).1
  refine run_ok 1 (c' := (41, [(0, .ref 0), (1, .int (nI w)), (2, .int (nI k)), (3, .int (nI 1))], [.int (nI 1)], u)) rfl ?_
  refine x_tabIn 78 rfl (by decide) (by decide) rfl rfl ?_
  refine run_ok 4 (c' := (86, [(0, .ref 0), (1, .int (nI w)), (2, .int (nI k)), (3, .int (nI 1))], [.int (nI k), .ref 26], u)) rfl ?_
  refine x_iaN (nmv (vnm (vo T (w + 1)) k)) rfl rfl (by decide) (by omega) (h26 k (by omega)) ?_
  exact x_ret (r := some (.int (nmv (vnm (vo T (w + 1)) k)))) rfl rfl trivial ⟨rfl, hfu.sub (by decide), h2u⟩ rfl

set_option maxHeartbeats 2000000 in
theorem c_at_ok2S (S : ST) (T : TD) (hT : TR 5 T S) (hto : tok T) (w k : Nat) (hw : w < 24) (hk : k < tnb T) : EX me_N_at 5 [.ref 0, .int (nI w), .int (nI k), .int (nI 2)] S (fun r u => r = some (.int (nI (vgr (vo T (w + 1)) k))) ∧ fr CQ S u ∧ u.2.1 = S.2.1) := by
  refine EX.of mok_N_at (Nat.le_of_ble_eq_true rfl) ?_
  obtain ⟨n8, n9, hbt, het, hht, hlo⟩ := id hto
  obtain ⟨t1, t2, t3, t4, t5, t6, t7, t8, t9, t10, t11⟩ := id hT
  refine run_ok 2 (c' := (3, [(0, .ref 0), (1, .int (nI w)), (2, .int (nI k)), (3, .int (nI 2))], [.int (nI 24), .int (nI w)], S)) rfl ?_
  refine x_callS [.int (nI w), .int (nI 24)] rfl cs_N_isBelow.1 lk_6_73 cs_N_isBelow.2.1 rfl rfl (Nat.le_of_ble_eq_true rfl) (by decide) cs_N_isBelow.2.2 (c_isBelow S (nI w) (nI 24)) ?_
  rintro r u ⟨hr, hu⟩
  rw [hr, hu]
  clear hr hu r u
  refine x_ifB_eq 25 rfl rfl (fun hn => absurd hn (fun z => z (inr_t hw (by decide)))) (fun h6 => ?_)
  refine run_ok 2 (c' := (11, [(0, .ref 0), (1, .int (nI w)), (2, .int (nI k)), (3, .int (nI 2))], [.int (nI k), .ref 0], S)) rfl ?_
  refine x_callV [.int (nI k)] rfl cv_N_isBoat.1 lk_6_107 cv_N_isBoat.2.1 cv_N_isBoat.2.2.1 rfl cv_N_isBoat.2.2.2.1 rfl rfl (Nat.le_of_ble_eq_true rfl) (by decide) cv_N_isBoat.2.2.2.2 (c_isBoat S (nI k) (tnb T) t9) ?_
  rintro r u ⟨hr, hu⟩
  rw [hr, hu]
  clear hr hu r u
  refine x_ifB_eq 25 rfl rfl (fun hn => absurd hn (fun z => z (inr_t hk (by omega)))) (fun h14 => ?_)
  refine run_ok 2 (c' := (19, [(0, .ref 0), (1, .int (nI w)), (2, .int (nI k)), (3, .int (nI 2))], [.int (nI 4), .int (nI 2)], S)) rfl ?_
  refine x_callS [.int (nI 2), .int (nI 4)] rfl cs_N_isBelow.1 lk_6_73 cs_N_isBelow.2.1 rfl rfl (Nat.le_of_ble_eq_true rfl) (by decide) cs_N_isBelow.2.2 (c_isBelow S (nI 2) (nI 4)) ?_
  rintro r u ⟨hr, hu⟩
  rw [hr, hu]
  clear hr hu r u
  refine x_ifB_ne 28 rfl rfl (fun h22 => ?_) (fun hn => absurd (inr_t (by decide) (by decide)) hn)
  refine run_ok 5 (c' := (37, [(0, .ref 0), (1, .int (nI w)), (2, .int (nI k)), (3, .int (nI 2))], [.int (nI w), .ref 5, .ref 23], S)) rfl ?_
  refine x_callV [.ref 5, .int (nI w)] rfl cv_V_run.1 lk_6_146 cv_V_run.2.1 cv_V_run.2.2.1 rfl cv_V_run.2.2.2.1 rfl rfl (Nat.le_of_ble_eq_true rfl) (by decide) cv_V_run.2.2.2.2 (c_run5 S T w hT hto (by omega)) ?_
  rintro r u ⟨hr, hCu, hfu, h2u⟩
  rw [hr]
  clear hr r
  have hTu : TR 5 T u := hT.keep hfu (by decide)
  obtain ⟨t1, t2, t3, t4, t5, t6, t7, t8, t9, t10, t11⟩ := id hTu
  obtain ⟨h24, h25, h26, h27, h28, h29, hsr, g9, g10, g11, htl⟩ := id hCu
  have hVu : vk T (vo T (w + 1)) := (vk_vo hto (w + 1) (by omega)).1
  refine run_ok 1 (c' := (41, [(0, .ref 0), (1, .int (nI w)), (2, .int (nI k)), (3, .int (nI 2))], [.int (nI 2)], u)) rfl ?_
  refine x_tabIn 88 rfl (by decide) (by decide) rfl rfl ?_
  refine run_ok 4 (c' := (96, [(0, .ref 0), (1, .int (nI w)), (2, .int (nI k)), (3, .int (nI 2))], [.int (nI k), .ref 27], u)) rfl ?_
  refine x_iaN (nI (vgr (vo T (w + 1)) k)) rfl rfl (by decide) (by omega) (h27 k (by omega)) ?_
  exact x_ret (r := some (.int (nI (vgr (vo T (w + 1)) k)))) rfl rfl trivial ⟨rfl, hfu.sub (by decide), h2u⟩ rfl

set_option maxHeartbeats 2000000 in
theorem c_at_ok3S (S : ST) (T : TD) (hT : TR 5 T S) (hto : tok T) (w k : Nat) (hw : w < 24) (hk : k < tnb T) : EX me_N_at 5 [.ref 0, .int (nI w), .int (nI k), .int (nI 3)] S (fun r u => r = some (.int (nI (vho (vo T (w + 1)) k))) ∧ fr CQ S u ∧ u.2.1 = S.2.1) := by
  refine EX.of mok_N_at (Nat.le_of_ble_eq_true rfl) ?_
  obtain ⟨n8, n9, hbt, het, hht, hlo⟩ := id hto
  obtain ⟨t1, t2, t3, t4, t5, t6, t7, t8, t9, t10, t11⟩ := id hT
  refine run_ok 2 (c' := (3, [(0, .ref 0), (1, .int (nI w)), (2, .int (nI k)), (3, .int (nI 3))], [.int (nI 24), .int (nI w)], S)) rfl ?_
  refine x_callS [.int (nI w), .int (nI 24)] rfl cs_N_isBelow.1 lk_6_73 cs_N_isBelow.2.1 rfl rfl (Nat.le_of_ble_eq_true rfl) (by decide) cs_N_isBelow.2.2 (c_isBelow S (nI w) (nI 24)) ?_
  rintro r u ⟨hr, hu⟩
  rw [hr, hu]
  clear hr hu r u
  refine x_ifB_eq 25 rfl rfl (fun hn => absurd hn (fun z => z (inr_t hw (by decide)))) (fun h6 => ?_)
  refine run_ok 2 (c' := (11, [(0, .ref 0), (1, .int (nI w)), (2, .int (nI k)), (3, .int (nI 3))], [.int (nI k), .ref 0], S)) rfl ?_
  refine x_callV [.int (nI k)] rfl cv_N_isBoat.1 lk_6_107 cv_N_isBoat.2.1 cv_N_isBoat.2.2.1 rfl cv_N_isBoat.2.2.2.1 rfl rfl (Nat.le_of_ble_eq_true rfl) (by decide) cv_N_isBoat.2.2.2.2 (c_isBoat S (nI k) (tnb T) t9) ?_
  rintro r u ⟨hr, hu⟩
  rw [hr, hu]
  clear hr hu r u
  refine x_ifB_eq 25 rfl rfl (fun hn => absurd hn (fun z => z (inr_t hk (by omega)))) (fun h14 => ?_)
  refine run_ok 2 (c' := (19, [(0, .ref 0), (1, .int (nI w)), (2, .int (nI k)), (3, .int (nI 3))], [.int (nI 4), .int (nI 3)], S)) rfl ?_
  refine x_callS [.int (nI 3), .int (nI 4)] rfl cs_N_isBelow.1 lk_6_73 cs_N_isBelow.2.1 rfl rfl (Nat.le_of_ble_eq_true rfl) (by decide) cs_N_isBelow.2.2 (c_isBelow S (nI 3) (nI 4)) ?_
  rintro r u ⟨hr, hu⟩
  rw [hr, hu]
  clear hr hu r u
  refine x_ifB_ne 28 rfl rfl (fun h22 => ?_) (fun hn => absurd (inr_t (by decide) (by decide)) hn)
  refine run_ok 5 (c' := (37, [(0, .ref 0), (1, .int (nI w)), (2, .int (nI k)), (3, .int (nI 3))], [.int (nI w), .ref 5, .ref 23], S)) rfl ?_
  refine x_callV [.ref 5, .int (nI w)] rfl cv_V_run.1 lk_6_146 cv_V_run.2.1 cv_V_run.2.2.1 rfl cv_V_run.2.2.2.1 rfl rfl (Nat.le_of_ble_eq_true rfl) (by decide) cv_V_run.2.2.2.2 (c_run5 S T w hT hto (by omega)) ?_
  rintro r u ⟨hr, hCu, hfu, h2u⟩
  rw [hr]
  clear hr r
  have hTu : TR 5 T u := hT.keep hfu (by decide)
  obtain ⟨t1, t2, t3, t4, t5, t6, t7, t8, t9, t10, t11⟩ := id hTu
  obtain ⟨h24, h25, h26, h27, h28, h29, hsr, g9, g10, g11, htl⟩ := id hCu
  have hVu : vk T (vo T (w + 1)) := (vk_vo hto (w + 1) (by omega)).1
  refine run_ok 1 (c' := (41, [(0, .ref 0), (1, .int (nI w)), (2, .int (nI k)), (3, .int (nI 3))], [.int (nI 3)], u)) rfl ?_
  refine x_tabOut 98 rfl (Or.inr (by decide)) rfl ?_
  refine run_ok 4 (c' := (106, [(0, .ref 0), (1, .int (nI w)), (2, .int (nI k)), (3, .int (nI 3))], [.int (nI k), .ref 28], u)) rfl ?_
  refine x_iaN (nI (vho (vo T (w + 1)) k)) rfl rfl (by decide) (by omega) (h28 k (by omega)) ?_
  exact x_ret (r := some (.int (nI (vho (vo T (w + 1)) k)))) rfl rfl trivial ⟨rfl, hfu.sub (by decide), h2u⟩ rfl

set_option maxHeartbeats 2000000 in
theorem c_longs_okS (S : ST) (T : TD) (hT : TR 5 T S) (hto : tok T) (k : Nat) (hk : k < tnb T) : EX me_N_longs 5 [.ref 0, .int (nI k)] S (fun r u => r = some (.int (nI (lsn T 24 k))) ∧ fr CQ S u ∧ u.2.1 = S.2.1) := by
  refine EX.of mok_N_longs (Nat.le_of_ble_eq_true rfl) ?_
  obtain ⟨n8, n9, hbt, het, hht, hlo⟩ := id hto
  obtain ⟨t1, t2, t3, t4, t5, t6, t7, t8, t9, t10, t11⟩ := id hT
  refine run_ok 2 (c' := (2, [(0, .ref 0), (1, .int (nI k))], [.int (nI k), .ref 0], S)) rfl ?_
  refine x_callV [.int (nI k)] rfl cv_N_isBoat.1 lk_6_107 cv_N_isBoat.2.1 cv_N_isBoat.2.2.1 rfl cv_N_isBoat.2.2.2.1 rfl rfl (Nat.le_of_ble_eq_true rfl) (by decide) cv_N_isBoat.2.2.2.2 (c_isBoat S (nI k) (tnb T) t9) ?_
  rintro r u ⟨hr, hu⟩
  rw [hr, hu]
  clear hr hu r u
  refine x_ifB_ne 11 rfl rfl (fun h5 => ?_) (fun hn => absurd (inr_t hk (by omega)) hn)
  refine run_ok 5 (c' := (21, [(0, .ref 0), (1, .int (nI k))], [.int (nI 23), .ref 5, .ref 23], S)) rfl ?_
  refine x_callV [.ref 5, .int (nI 23)] rfl cv_V_run.1 lk_6_146 cv_V_run.2.1 cv_V_run.2.2.1 rfl cv_V_run.2.2.2.1 rfl rfl (Nat.le_of_ble_eq_true rfl) (by decide) cv_V_run.2.2.2.2 (c_run5 S T 23 hT hto (by omega)) ?_
  rintro r u ⟨hr, hCu, hfu, h2u⟩
  rw [hr]
  clear hr r
  have hTu : TR 5 T u := hT.keep hfu (by decide)
  obtain ⟨t1, t2, t3, t4, t5, t6, t7, t8, t9, t10, t11⟩ := id hTu
  obtain ⟨h24, h25, h26, h27, h28, h29, hsr, g9, g10, g11, htl⟩ := id hCu
  have hVu : vk T (vo T 24) := (vk_vo hto (23 + 1) (by omega)).1
  refine run_ok 4 (c' := (32, [(0, .ref 0), (1, .int (nI k))], [.int (nI k), .ref 29], u)) rfl ?_
  refine x_iaN (nI (lsn T 24 k)) rfl rfl (by decide) (by omega) (h29 k (by omega)) ?_
  exact x_ret (r := some (.int (nI (lsn T 24 k)))) rfl rfl trivial ⟨rfl, hfu.sub (by decide), h2u⟩ rfl

set_option maxHeartbeats 2000000 in
theorem c_seekWrongS (S : ST) (T : TD) (hT : TR 5 T S) (hto : tok T) (hne : tne T ≤ 8) (k : Nat) (hk : k < tnb T) : EX me_N_seekWrong 5 [.ref 0, .int (nI k)] S (fun r u => r = none ∧ BR (wrg T k 8) u ∧ fr CQ S u ∧ u.2.1 = S.2.1) := by
  refine EX.of mok_N_seekWrong (Nat.le_of_ble_eq_true rfl) ?_
  obtain ⟨n8, n9, hbt, het, hht, hlo⟩ := id hto
  obtain ⟨t1, t2, t3, t4, t5, t6, t7, t8, t9, t10, t11⟩ := id hT
  have qb := (hbt k hk).2.1
  have H : ∀ i, i ≤ 8 → ∀ v : ST, BR (wrg T k i) v → fr CQ S v → v.2.1 = S.2.1 → BX me_N_seekWrong 5 none (fun r u => r = none ∧ BR (wrg T k 8) u ∧ fr CQ S u ∧ u.2.1 = S.2.1) (19, [(0, .ref 0), (1, .int (nI k)), (2, .int (nI (tbu T k))), (3, .int (nI i))], [], v) := by
    refine loop_up (P := fun i => ∀ v : ST, BR (wrg T k i) v → fr CQ S v → v.2.1 = S.2.1 → BX me_N_seekWrong 5 none (fun r u => r = none ∧ BR (wrg T k 8) u ∧ fr CQ S u ∧ u.2.1 = S.2.1) (19, [(0, .ref 0), (1, .int (nI k)), (2, .int (nI (tbu T k))), (3, .int (nI i))], [], v)) 8 ?_ ?_
    · intro v hb hfv hsw
      refine run_ok 2 (c' := (22, [(0, .ref 0), (1, .int (nI k)), (2, .int (nI (tbu T k))), (3, .int (nI 8))], [.int (nI 8), .int (nI 8)], v)) rfl ?_
      refine x_icmpN_ge 91 rfl rfl (by omega) (by omega) (fun h22 => ?_) (fun hn => absurd (Nat.le_refl 8) hn)
      exact x_ret (r := none) rfl rfl trivial ⟨rfl, hb, hfv, hsw⟩ rfl
    · intro i hi ih v hb hfv hsw
      have qn : tnb (wh T (upn (th T) (8 * i + tbu T k) 5)) = tnb T := rfl
      have q1 := wrg_le T k i (by omega)
      have q2 := lsn_le (wh T (upn (th T) (8 * i + tbu T k) 5)) k 24
      refine run_ok 2 (c' := (22, [(0, .ref 0), (1, .int (nI k)), (2, .int (nI (tbu T k))), (3, .int (nI i))], [.int (nI 8), .int (nI i)], v)) rfl ?_
      refine x_icmpN_ge 91 rfl rfl (by omega) (by omega) (fun hn => absurd hn (show ¬ 8 ≤ i by omega)) (fun h22 => ?_)
      refine run_ok 2 (c' := (27, [(0, .ref 0), (1, .int (nI k)), (2, .int (nI (tbu T k))), (3, .int (nI i))], [.int (nI (tbu T k)), .int (nI i)], v)) rfl ?_
      refine x_icmpN_eq 85 rfl rfl (by omega) (by omega) (fun h27 => ?_) (fun h27 => ?_)
      · refine run_ok 1 (c' := (88, [(0, .ref 0), (1, .int (nI k)), (2, .int (nI (tbu T k))), (3, .int (nI i + nI 1))], [], v)) rfl ?_
        rw [nI_add i 1]
        refine run_ok 1 (c' := (19, [(0, .ref 0), (1, .int (nI k)), (2, .int (nI (tbu T k))), (3, .int (nI (i + 1)))], [], v)) rfl ?_
        rw [show wrg T k (i + 1) = wrg T k i from if_pos h27] at ih
        exact ih v hb hfv hsw
      · refine run_ok 4 (c' := (38, [(0, .ref 0), (1, .int (nI k)), (2, .int (nI (tbu T k))), (3, .int (nI i))], [.ref 5, .ref 14], v)) rfl ?_
        refine x_callV [.ref 5] rfl cv_T_become.1 lk_6_220 cv_T_become.2.1 cv_T_become.2.2.1 rfl cv_T_become.2.2.2.1 rfl rfl (Nat.le_of_ble_eq_true rfl) (by decide) cv_T_become.2.2.2.2 (c_become v T (hT.keep hfv (by decide)) hto hne) ?_
        rintro r v1 ⟨hr, hTb, hfb, h2b⟩
        rw [hr]
        clear hr r
        refine run_ok 5 (c' := (50, [(0, .ref 0), (1, .int (nI k)), (2, .int (nI (tbu T k))), (3, .int (nI i))], [.int (nI (tbu T k)), .int (nI i), .ref 15], v1)) rfl ?_
        refine x_callS [.int (nI i), .int (nI (tbu T k))] rfl cs_N_pair.1 lk_6_103 cs_N_pair.2.1 rfl rfl (Nat.le_of_ble_eq_true rfl) (by decide) cs_N_pair.2.2 (c_pair v1 (nI i) (nI (tbu T k))) ?_
        rintro r x ⟨hr, hu⟩
        rw [hr, hu]
        clear hr hu r x
        refine x_top (v' := nI (8 * i + (tbu T k))) (by rw [pk_mul, nI_add, Nat.mul_comm]) ?_
        refine run_ok 1 (c' := (54, [(0, .ref 0), (1, .int (nI k)), (2, .int (nI (tbu T k))), (3, .int (nI i))], [.int (nI 5), .int (nI (8 * i + (tbu T k))), .ref 15], v1)) rfl ?_
        refine x_isN rfl rfl (by decide) (by omega) ?_
        refine run_ok 5 (c' := (65, [(0, .ref 0), (1, .int (nI k)), (2, .int (nI (tbu T k))), (3, .int (nI i))], [.int (nI 23), .ref 14, .ref 23], (pt v1 15 (8 * i + (tbu T k)) (nI 5)))) rfl ?_
        refine x_callV [.ref 14, .int (nI 23)] rfl cv_V_run.1 lk_6_146 cv_V_run.2.1 cv_V_run.2.2.1 rfl cv_V_run.2.2.2.1 rfl rfl (Nat.le_of_ble_eq_true rfl) (by decide) cv_V_run.2.2.2.2 (c_run14 (pt v1 15 (8 * i + (tbu T k)) (nI 5)) (wh T (upn (th T) (8 * i + tbu T k) 5)) 23 ⟨hTb.1.put, hTb.2⟩ (tok_wh hto (by decide)) (by omega)) ?_
        rintro r u ⟨hr, hCu, hfu, h2u⟩
        rw [hr]
        clear hr r
        have h29 := hCu.2.2.2.2.2.1
        refine run_ok 7 (c' := (81, [(0, .ref 0), (1, .int (nI k)), (2, .int (nI (tbu T k))), (3, .int (nI i))], [.int (nI k), .ref 29, .int (nI i), .ref 36], u)) rfl ?_
        refine x_iaN (nI (lsn (wh T (upn (th T) (8 * i + tbu T k) 5)) 24 k)) rfl rfl (by decide) (by omega) (h29 k (by omega)) ?_
        refine x_callV [.int (nI i), .int (nI (lsn (wh T (upn (th T) (8 * i + tbu T k) 5)) 24 k))] rfl cv_B_offer.1 lk_6_183 cv_B_offer.2.1 cv_B_offer.2.2.1 rfl cv_B_offer.2.2.2.1 rfl rfl (Nat.le_of_ble_eq_true rfl) (by decide) cv_B_offer.2.2.2.2 (c_offerU u (wrg T k i) i (lsn (wh T (upn (th T) (8 * i + tbu T k) 5)) 24 k) ⟨by rw [hfu 36 (by decide)]; exact (by rw [show (pt v1 15 (8 * i + tbu T k) (nI 5)).1 36 = v1.1 36 from rfl, hfb 36 (by decide)]; exact hb.1), by rw [hfu 36 (by decide)]; exact (by rw [show (pt v1 15 (8 * i + tbu T k) (nI 5)).1 36 = v1.1 36 from rfl, hfb 36 (by decide)]; exact hb.2)⟩ (by omega) (by omega) (by omega) (by omega)) ?_
        rintro r z ⟨hr, hbz, hfz, h2z⟩
        rw [hr]
        clear hr r
        refine run_ok 1 (c' := (88, [(0, .ref 0), (1, .int (nI k)), (2, .int (nI (tbu T k))), (3, .int (nI i + nI 1))], [], z)) rfl ?_
        rw [nI_add i 1]
        refine run_ok 1 (c' := (19, [(0, .ref 0), (1, .int (nI k)), (2, .int (nI (tbu T k))), (3, .int (nI (i + 1)))], [], z)) rfl ?_
        rw [show wrg T k (i + 1) = bup (wrg T k i) i (lsn (wh T (upn (th T) (8 * i + tbu T k) 5)) 24 k) from if_neg h27] at ih
        exact ih z hbz (hfv.tr ((((hfb.sub (by decide)).pt (by decide)).tr (hfu.sub (by decide))).tr (hfz.sub (by decide)))) (by rw [h2z, h2u]; show v1.2.1 = _; rw [h2b]; exact hsw)
  refine run_ok 4 (c' := (8, [(0, .ref 0), (1, .int (nI k))], [.int (nI k), .ref 8], S)) rfl ?_
  refine x_iaN (nI (tbu T k)) rfl rfl (by decide) (by omega) (t3 k (by omega)) ?_
  refine run_ok 3 (c' := (14, [(0, .ref 0), (1, .int (nI k)), (2, .int (nI (tbu T k)))], [.ref 36], S)) rfl ?_
  refine x_callV [] rfl cv_B_clear.1 lk_6_177 cv_B_clear.2.1 cv_B_clear.2.2.1 rfl cv_B_clear.2.2.2.1 rfl rfl (Nat.le_of_ble_eq_true rfl) (by decide) cv_B_clear.2.2.2.2 (c_clear S) ?_
  rintro r x ⟨hr, hv⟩
  rw [hr, hv]
  clear hr hv r x
  refine run_ok 2 (c' := (19, [(0, .ref 0), (1, .int (nI k)), (2, .int (nI (tbu T k))), (3, .int (nI 0))], [], (pt (pt S 36 0 (-1)) 36 1 (nI 0)))) rfl ?_
  exact H 0 (by omega) _ ⟨rfl, rfl⟩ ((fr.rf.pt (by decide)).pt (by decide)) rfl

set_option maxHeartbeats 2000000 in
theorem c_seekPayS (S : ST) (T : TD) (hT : TR 5 T S) (hto : tok T) (hne : tne T ≤ 8) (k : Nat) (hk : k < tnb T) : EX me_N_seekPay 5 [.ref 0, .int (nI k)] S (fun r u => r = none ∧ BR (pyf T k 24) u ∧ fr CQ S u ∧ u.2.1 = S.2.1) := by
  refine EX.of mok_N_seekPay (Nat.le_of_ble_eq_true rfl) ?_
  obtain ⟨n8, n9, hbt, het, hht, hlo⟩ := id hto
  obtain ⟨t1, t2, t3, t4, t5, t6, t7, t8, t9, t10, t11⟩ := id hT
  have H : ∀ i, i ≤ 24 → ∀ v : ST, BR (pyf T k i) v → fr CQ S v → v.2.1 = S.2.1 → BX me_N_seekPay 5 none (fun r u => r = none ∧ BR (pyf T k 24) u ∧ fr CQ S u ∧ u.2.1 = S.2.1) (9, [(0, .ref 0), (1, .int (nI k)), (2, .int (nI i))], [], v) := by
    refine loop_up (P := fun i => ∀ v : ST, BR (pyf T k i) v → fr CQ S v → v.2.1 = S.2.1 → BX me_N_seekPay 5 none (fun r u => r = none ∧ BR (pyf T k 24) u ∧ fr CQ S u ∧ u.2.1 = S.2.1) (9, [(0, .ref 0), (1, .int (nI k)), (2, .int (nI i))], [], v)) 24 ?_ ?_
    · intro v hb hfv hsw
      refine run_ok 2 (c' := (12, [(0, .ref 0), (1, .int (nI k)), (2, .int (nI 24))], [.int (nI 24), .int (nI 24)], v)) rfl ?_
      refine x_icmpN_ge 72 rfl rfl (by omega) (by omega) (fun h12 => ?_) (fun hn => absurd (Nat.le_refl 24) hn)
      exact x_ret (r := none) rfl rfl trivial ⟨rfl, hb, hfv, hsw⟩ rfl
    · intro i hi ih v hb hfv hsw
      have q1 := pyf_le T k i (by omega)
      have q2 := lsn_le (pyw T k i) k 24
      have qn : tnb (pyw T k i) = tnb T := rfl
      refine run_ok 2 (c' := (12, [(0, .ref 0), (1, .int (nI k)), (2, .int (nI i))], [.int (nI 24), .int (nI i)], v)) rfl ?_
      refine x_icmpN_ge 72 rfl rfl (by omega) (by omega) (fun hn => absurd hn (show ¬ 24 ≤ i by omega)) (fun h12 => ?_)
      refine run_ok 4 (c' := (23, [(0, .ref 0), (1, .int (nI k)), (2, .int (nI i))], [.ref 5, .ref 14], v)) rfl ?_
      refine x_callV [.ref 5] rfl cv_T_become.1 lk_6_220 cv_T_become.2.1 cv_T_become.2.2.1 rfl cv_T_become.2.2.2.1 rfl rfl (Nat.le_of_ble_eq_true rfl) (by decide) cv_T_become.2.2.2.2 (c_become v T (hT.keep hfv (by decide)) hto hne) ?_
      rintro r v1 ⟨hr, hTb, hfb, h2b⟩
      rw [hr]
      clear hr r
      refine run_ok 5 (c' := (33, [(0, .ref 0), (1, .int (nI k)), (2, .int (nI i))], [.int (nI k), .int (nI i), .int (nI 1), .ref 14], v1)) rfl ?_
      refine x_callV [.int (nI 1), .int (nI i), .int (nI k)] rfl cv_T_addEvent.1 lk_6_126 cv_T_addEvent.2.1 cv_T_addEvent.2.2.1 rfl cv_T_addEvent.2.2.2.1 rfl rfl (Nat.le_of_ble_eq_true rfl) (by decide) cv_T_addEvent.2.2.2.2 (c_addEvent14 v1 T 1 i k hTb hne) ?_
      rintro r v2 ⟨hr, hTc, hfc, h2c⟩
      rw [hr]
      clear hr r
      refine run_ok 5 (c' := (46, [(0, .ref 0), (1, .int (nI k)), (2, .int (nI i))], [.int (nI 23), .ref 14, .ref 23], v2)) rfl ?_
      refine x_callV [.ref 14, .int (nI 23)] rfl cv_V_run.1 lk_6_146 cv_V_run.2.1 cv_V_run.2.2.1 rfl cv_V_run.2.2.2.1 rfl rfl (Nat.le_of_ble_eq_true rfl) (by decide) cv_V_run.2.2.2.2 (c_run14 v2 (pyw T k i) 23 hTc (tok_wev hto hne (by decide) (by omega) (by omega)) (by omega)) ?_
      rintro r u ⟨hr, hCu, hfu, h2u⟩
      rw [hr]
      clear hr r
      have h29 := hCu.2.2.2.2.2.1
      refine run_ok 7 (c' := (62, [(0, .ref 0), (1, .int (nI k)), (2, .int (nI i))], [.int (nI k), .ref 29, .int (nI i), .ref 36], u)) rfl ?_
      refine x_iaN (nI (lsn (pyw T k i) 24 k)) rfl rfl (by decide) (by omega) (h29 k (by omega)) ?_
      refine x_callV [.int (nI i), .int (nI (lsn (pyw T k i) 24 k))] rfl cv_B_offer.1 lk_6_183 cv_B_offer.2.1 cv_B_offer.2.2.1 rfl cv_B_offer.2.2.2.1 rfl rfl (Nat.le_of_ble_eq_true rfl) (by decide) cv_B_offer.2.2.2.2 (c_offerU u (pyf T k i) i (lsn (pyw T k i) 24 k) (show BR _ u from ⟨by rw [hfu 36 (by decide), hfc 36 (by decide), hfb 36 (by decide)]; exact hb.1, by rw [hfu 36 (by decide), hfc 36 (by decide), hfb 36 (by decide)]; exact hb.2⟩) (by omega) (by omega) (by omega) (by omega)) ?_
      rintro r z ⟨hr, hbz, hfz, h2z⟩
      rw [hr]
      clear hr r
      refine run_ok 1 (c' := (69, [(0, .ref 0), (1, .int (nI k)), (2, .int (nI i + nI 1))], [], z)) rfl ?_
      rw [nI_add i 1]
      refine run_ok 1 (c' := (9, [(0, .ref 0), (1, .int (nI k)), (2, .int (nI (i + 1)))], [], z)) rfl ?_
      exact ih z hbz (hfv.tr ((((hfb.sub (by decide)).tr (hfc.sub (by decide))).tr (hfu.sub (by decide))).tr (hfz.sub (by decide)))) (by rw [h2z, h2u, h2c, h2b]; exact hsw)
  refine run_ok 2 (c' := (4, [(0, .ref 0), (1, .int (nI k))], [.ref 36], S)) rfl ?_
  refine x_callV [] rfl cv_B_clear.1 lk_6_177 cv_B_clear.2.1 cv_B_clear.2.2.1 rfl cv_B_clear.2.2.2.1 rfl rfl (Nat.le_of_ble_eq_true rfl) (by decide) cv_B_clear.2.2.2.2 (c_clear S) ?_
  rintro r x ⟨hr, hv⟩
  rw [hr, hv]
  clear hr hv r x
  refine run_ok 2 (c' := (9, [(0, .ref 0), (1, .int (nI k)), (2, .int (nI 0))], [], (pt (pt S 36 0 (-1)) 36 1 (nI 0)))) rfl ?_
  exact H 0 (by omega) _ ⟨rfl, rfl⟩ ((fr.rf.pt (by decide)).pt (by decide)) rfl

set_option maxHeartbeats 2000000 in
theorem c_seekWaitS (S : ST) (T : TD) (hT : TR 5 T S) (hto : tok T) (hne : tne T ≤ 8) (k : Nat) (hk : k < tnb T) : EX me_N_seekWait 5 [.ref 0, .int (nI k)] S (fun r u => r = none ∧ BN (waf T k 24) u ∧ fr CQ S u ∧ u.2.1 = S.2.1) := by
  refine EX.of mok_N_seekWait (Nat.le_of_ble_eq_true rfl) ?_
  obtain ⟨n8, n9, hbt, het, hht, hlo⟩ := id hto
  obtain ⟨t1, t2, t3, t4, t5, t6, t7, t8, t9, t10, t11⟩ := id hT
  have H : ∀ i, i ≤ 24 → ∀ (v : ST) (f : Nat → Nat), BN (waf T k i) v → TR 14 (wla T f) v → (∀ j, j ≠ k → f j = tla T j) → fr CQ S v → v.2.1 = S.2.1 → BX me_N_seekWait 5 none (fun r u => r = none ∧ BN (waf T k 24) u ∧ fr CQ S u ∧ u.2.1 = S.2.1) (20, [(0, .ref 0), (1, .int (nI k)), (2, .int (nI i))], [], v) := by
    refine loop_up (P := fun i => ∀ (v : ST) (f : Nat → Nat), BN (waf T k i) v → TR 14 (wla T f) v → (∀ j, j ≠ k → f j = tla T j) → fr CQ S v → v.2.1 = S.2.1 → BX me_N_seekWait 5 none (fun r u => r = none ∧ BN (waf T k 24) u ∧ fr CQ S u ∧ u.2.1 = S.2.1) (20, [(0, .ref 0), (1, .int (nI k)), (2, .int (nI i))], [], v)) 24 ?_ ?_
    · intro v f hb hTv hff hfv hsw
      refine run_ok 2 (c' := (23, [(0, .ref 0), (1, .int (nI k)), (2, .int (nI 24))], [.int (nI 24), .int (nI 24)], v)) rfl ?_
      refine x_icmpN_ge 72 rfl rfl (by omega) (by omega) (fun h23 => ?_) (fun hn => absurd (Nat.le_refl 24) hn)
      exact x_ret (r := none) rfl rfl trivial ⟨rfl, hb, hfv, hsw⟩ rfl
    · intro i hi ih v f hb hTv hff hfv hsw
      have q1 := waf_le n8 k i (by omega)
      have q2 : cnt (fun j => decide (vis (vo (wla T (upn (tla T) k i)) 24) j = 2)) (tnb T) ≤ tnb T := cnt_le _ _
      refine run_ok 2 (c' := (23, [(0, .ref 0), (1, .int (nI k)), (2, .int (nI i))], [.int (nI 24), .int (nI i)], v)) rfl ?_
      refine x_icmpN_ge 72 rfl rfl (by omega) (by omega) (fun hn => absurd hn (show ¬ 24 ≤ i by omega)) (fun h23 => ?_)
      refine run_ok 5 (c' := (35, [(0, .ref 0), (1, .int (nI k)), (2, .int (nI i))], [.int (nI i), .int (nI k), .ref 18], v)) rfl ?_
      refine x_isN rfl rfl (by decide) (by omega) ?_
      have hTw : TR 14 (wla T (upn (tla T) k i)) (pt v 18 k (nI i)) := ⟨hTv.1, hTv.2.1, hTv.2.2.1, (hTv.2.2.2.1.put).cg (fun j hj => by show upn (tla T) k i j = upn f k i j; unfold upn; split; rfl; exact (hff j (by assumption)).symm), hTv.2.2.2.2⟩
      refine run_ok 5 (c' := (46, [(0, .ref 0), (1, .int (nI k)), (2, .int (nI i))], [.int (nI 23), .ref 14, .ref 23], (pt v 18 k (nI i)))) rfl ?_
      refine x_callV [.ref 14, .int (nI 23)] rfl cv_V_run.1 lk_6_146 cv_V_run.2.1 cv_V_run.2.2.1 rfl cv_V_run.2.2.2.1 rfl rfl (Nat.le_of_ble_eq_true rfl) (by decide) cv_V_run.2.2.2.2 (c_run14 (pt v 18 k (nI i)) (wla T (upn (tla T) k i)) 23 hTw (tok_wla hto (by omega)) (by omega)) ?_
      rintro r u ⟨hr, hCu, hfu, h2u⟩
      rw [hr]
      clear hr r
      have h29 := hCu.2.2.2.2.2.1
      refine run_ok 6 (c' := (59, [(0, .ref 0), (1, .int (nI k)), (2, .int (nI i))], [.int (nI 2), .ref 23, .int (nI i), .ref 36], u)) rfl ?_
      refine x_callV [.int (nI 2)] rfl cv_V_howMany.1 lk_6_161 cv_V_howMany.2.1 cv_V_howMany.2.2.1 rfl cv_V_howMany.2.2.2.1 rfl rfl (Nat.le_of_ble_eq_true rfl) (by decide) cv_V_howMany.2.2.2.2 (c_howMany14 u (wla T (upn (tla T) k i)) (vo (wla T (upn (tla T) k i)) 24) _ (hTw.keep hfu (by decide)) (tok_wla hto (by omega)) hCu (vk_vo (tok_wla hto (by omega)) 24 (by omega)).1 2 (by decide)) ?_
      rintro r x ⟨hr, hu⟩
      rw [hr, hu]
      clear hr hu r x
      refine run_ok 1 (c' := (63, [(0, .ref 0), (1, .int (nI k)), (2, .int (nI i))], [.int (-(nI (cnt (fun j => decide (vis (vo (wla T (upn (tla T) k i)) 24) j = 2)) (tnb T)))), .int (nI i), .ref 36], u)) rfl ?_
      refine x_callV [.int (nI i), .int (-(nI (cnt (fun j => decide (vis (vo (wla T (upn (tla T) k i)) 24) j = 2)) (tnb T))))] rfl cv_B_offer.1 lk_6_183 cv_B_offer.2.1 cv_B_offer.2.2.1 rfl cv_B_offer.2.2.2.1 rfl rfl (Nat.le_of_ble_eq_true rfl) (by decide) cv_B_offer.2.2.2.2 (c_offerD u (waf T k i) i (cnt (fun j => decide (vis (vo (wla T (upn (tla T) k i)) 24) j = 2)) (tnb T)) (show BN _ u from ⟨by rw [hfu 36 (by decide)]; exact hb.1, by rw [hfu 36 (by decide)]; exact hb.2⟩) (by omega) (by omega) (by omega) (by omega)) ?_
      rintro r z ⟨hr, hbz, hfz, h2z⟩
      rw [hr]
      clear hr r
      refine run_ok 1 (c' := (69, [(0, .ref 0), (1, .int (nI k)), (2, .int (nI i + nI 1))], [], z)) rfl ?_
      rw [nI_add i 1]
      refine run_ok 1 (c' := (20, [(0, .ref 0), (1, .int (nI k)), (2, .int (nI (i + 1)))], [], z)) rfl ?_
      exact ih z (upn (tla T) k i) hbz ((hTw.keep hfu (by decide)).keep hfz (by decide)) (fun j hj => upn_n hj) (hfv.tr (((fr.rf.pt (by decide)).tr (hfu.sub (by decide))).tr (hfz.sub (by decide)))) (by rw [h2z, h2u]; exact hsw)
  refine run_ok 4 (c' := (8, [(0, .ref 0), (1, .int (nI k))], [.ref 5, .ref 14], S)) rfl ?_
  refine x_callV [.ref 5] rfl cv_T_become.1 lk_6_220 cv_T_become.2.1 cv_T_become.2.2.1 rfl cv_T_become.2.2.2.1 rfl rfl (Nat.le_of_ble_eq_true rfl) (by decide) cv_T_become.2.2.2.2 (c_become S T hT hto hne) ?_
  rintro r v1 ⟨hr, hTb, hfb, h2b⟩
  rw [hr]
  clear hr r
  refine run_ok 2 (c' := (15, [(0, .ref 0), (1, .int (nI k))], [.ref 36], v1)) rfl ?_
  refine x_callV [] rfl cv_B_clear.1 lk_6_177 cv_B_clear.2.1 cv_B_clear.2.2.1 rfl cv_B_clear.2.2.2.1 rfl rfl (Nat.le_of_ble_eq_true rfl) (by decide) cv_B_clear.2.2.2.2 (c_clear v1) ?_
  rintro r x ⟨hr, hv⟩
  rw [hr, hv]
  clear hr hv r x
  refine run_ok 2 (c' := (20, [(0, .ref 0), (1, .int (nI k)), (2, .int (nI 0))], [], (pt (pt v1 36 0 (-1)) 36 1 (nI 0)))) rfl ?_
  exact H 0 (by omega) _ (tla T) ⟨rfl, (by decide : nI 0 = -(nI 0))⟩ hTb (fun _ _ => rfl) (((hfb.sub (by decide)).pt (by decide)).pt (by decide)) (by show v1.2.1 = _; rw [h2b])

set_option maxHeartbeats 2000000 in
theorem c_outSoS (S : ST) (T : TD) (hT : TR 14 T S) (hto : tok T) (G : SD) (hg : SR G S) (hgo : sok G) : EX me_N_trialComesOutSo 5 [.ref 0] S (fun r u => r = some (.int (b2 (fitb T (vo T 24) G G.1 = true))) ∧ TR 14 T u ∧ CR 14 T (vo T 24) (lsn T 24) u ∧ fr VL S u ∧ u.2.1 = S.2.1) := by
  refine EX.of mok_N_trialComesOutSo (Nat.le_of_ble_eq_true rfl) ?_
  refine run_ok 5 (c' := (10, [(0, .ref 0)], [.int (nI 23), .ref 14, .ref 23], S)) rfl ?_
  refine x_callV [.ref 14, .int (nI 23)] rfl cv_V_run.1 lk_6_146 cv_V_run.2.1 cv_V_run.2.2.1 rfl cv_V_run.2.2.2.1 rfl rfl (Nat.le_of_ble_eq_true rfl) (by decide) cv_V_run.2.2.2.2 (c_run14 S T 23 hT hto (by omega)) ?_
  rintro r u ⟨hr, hCu, hfu, h2u⟩
  rw [hr]
  clear hr r
  have h29 := hCu.2.2.2.2.2.1
  refine run_ok 4 (c' := (21, [(0, .ref 0)], [.ref 23, .ref 32], u)) rfl ?_
  refine x_callV [.ref 23] rfl cv_G_fit.1 lk_6_362 cv_G_fit.2.1 cv_G_fit.2.2.1 rfl cv_G_fit.2.2.2.1 rfl rfl (Nat.le_of_ble_eq_true rfl) (by decide) cv_G_fit.2.2.2.2 (c_fit u T (vo T 24) _ (hT.keep hfu (by decide)) hto hCu (vk_vo hto 24 (by omega)).1 G (hg.keep hfu (by decide)) hgo) ?_
  rintro r x ⟨hr, hu⟩
  rw [hr, hu]
  clear hr hu r x
  exact x_ret (r := some (.int (b2 (fitb T (vo T 24) G G.1 = true)))) rfl rfl (b2_01 _) ⟨rfl, hT.keep hfu (by decide), hCu, hfu, h2u⟩ rfl

set_option maxHeartbeats 2000000 in
theorem c_sort_okS (S : ST) (T : TD) (hT : TR 5 T S) (hto : tok T) (hne : tne T ≤ 8) (G : SD) (hg : SR G S) (hgo : sok G) (k : Nat) (hk : k < tnb T) : EX me_N_sort 6 [.ref 0, .int (nI k)] S (fun r u => r = some (.int (nI (bst (fun i => fitb (wso T (upn (tso T) k i)) (vo (wso T (upn (tso T) k i)) 24) G G.1) 3))) ∧ fr CQ S u ∧ u.2.1 = S.2.1) := by
  refine EX.of mok_N_sort (Nat.le_of_ble_eq_true rfl) ?_
  obtain ⟨n8, n9, hbt, het, hht, hlo⟩ := id hto
  obtain ⟨t1, t2, t3, t4, t5, t6, t7, t8, t9, t10, t11⟩ := id hT
  have H : ∀ i, i ≤ 3 → ∀ (v : ST) (f : Nat → Nat), TR 14 (wso T f) v → (∀ j, j ≠ k → f j = tso T j) → fr CQ S v → v.2.1 = S.2.1 → BX me_N_sort 6 none (fun r u => r = some (.int (nI (bst (fun i => fitb (wso T (upn (tso T) k i)) (vo (wso T (upn (tso T) k i)) 24) G G.1) 3))) ∧ fr CQ S u ∧ u.2.1 = S.2.1) (26, [(0, .ref 0), (1, .int (nI k)), (2, .int (nI (bst (fun i => fitb (wso T (upn (tso T) k i)) (vo (wso T (upn (tso T) k i)) 24) G G.1) i))), (3, .int (nI i))], [], v) := by
    refine loop_up (P := fun i => ∀ (v : ST) (f : Nat → Nat), TR 14 (wso T f) v → (∀ j, j ≠ k → f j = tso T j) → fr CQ S v → v.2.1 = S.2.1 → BX me_N_sort 6 none (fun r u => r = some (.int (nI (bst (fun i => fitb (wso T (upn (tso T) k i)) (vo (wso T (upn (tso T) k i)) 24) G G.1) 3))) ∧ fr CQ S u ∧ u.2.1 = S.2.1) (26, [(0, .ref 0), (1, .int (nI k)), (2, .int (nI (bst (fun i => fitb (wso T (upn (tso T) k i)) (vo (wso T (upn (tso T) k i)) 24) G G.1) i))), (3, .int (nI i))], [], v)) 3 ?_ ?_
    · intro v f hTv hff hfv hsw
      refine run_ok 2 (c' := (28, [(0, .ref 0), (1, .int (nI k)), (2, .int (nI (bst (fun i => fitb (wso T (upn (tso T) k i)) (vo (wso T (upn (tso T) k i)) 24) G G.1) 3))), (3, .int (nI 3))], [.int (nI 3), .int (nI 3)], v)) rfl ?_
      refine x_icmpN_ge 60 rfl rfl (by omega) (by omega) (fun h28 => ?_) (fun hn => absurd (Nat.le_refl _) hn)
      refine run_ok 1 (c' := (61, [(0, .ref 0), (1, .int (nI k)), (2, .int (nI (bst (fun i => fitb (wso T (upn (tso T) k i)) (vo (wso T (upn (tso T) k i)) 24) G G.1) 3))), (3, .int (nI 3))], [.int (nI (bst (fun i => fitb (wso T (upn (tso T) k i)) (vo (wso T (upn (tso T) k i)) 24) G G.1) 3))], v)) rfl ?_
      exact x_ret (r := some (.int (nI (bst (fun i => fitb (wso T (upn (tso T) k i)) (vo (wso T (upn (tso T) k i)) 24) G G.1) 3)))) rfl rfl trivial ⟨rfl, hfv, hsw⟩ rfl
    · intro i hi ih v f hTv hff hfv hsw
      refine run_ok 2 (c' := (28, [(0, .ref 0), (1, .int (nI k)), (2, .int (nI (bst (fun i => fitb (wso T (upn (tso T) k i)) (vo (wso T (upn (tso T) k i)) 24) G G.1) i))), (3, .int (nI i))], [.int (nI 3), .int (nI i)], v)) rfl ?_
      refine x_icmpN_ge 60 rfl rfl (by omega) (by omega) (fun hn => absurd hn (show ¬ 3 ≤ i by omega)) (fun h28 => ?_)
      refine run_ok 5 (c' := (40, [(0, .ref 0), (1, .int (nI k)), (2, .int (nI (bst (fun i => fitb (wso T (upn (tso T) k i)) (vo (wso T (upn (tso T) k i)) 24) G G.1) i))), (3, .int (nI i))], [.int (nI i), .int (nI k), .ref 16], v)) rfl ?_
      refine x_isN rfl rfl (by decide) (by omega) ?_
      have hTw : TR 14 (wso T (upn (tso T) k i)) (pt v 16 k (nI i)) := ⟨hTv.1, (hTv.2.1.put).cg (fun j hj => by show upn (tso T) k i j = upn f k i j; unfold upn; split; rfl; exact (hff j (by assumption)).symm), hTv.2.2⟩
      refine run_ok 1 (c' := (42, [(0, .ref 0), (1, .int (nI k)), (2, .int (nI (bst (fun i => fitb (wso T (upn (tso T) k i)) (vo (wso T (upn (tso T) k i)) 24) G G.1) i))), (3, .int (nI i))], [.ref 0], (pt v 16 k (nI i)))) rfl ?_
      refine x_callV [] rfl cv_N_trialComesOutSo.1 lk_6_226 cv_N_trialComesOutSo.2.1 cv_N_trialComesOutSo.2.2.1 rfl cv_N_trialComesOutSo.2.2.2.1 rfl rfl (Nat.le_of_ble_eq_true rfl) (by decide) cv_N_trialComesOutSo.2.2.2.2 (c_outSoS (pt v 16 k (nI i)) (wso T (upn (tso T) k i)) hTw (tok_wso hto (by omega)) G (hg.keep (hfv.tr (fr.rf.pt (by decide))) (by decide)) hgo) ?_
      rintro r z ⟨hr, hTz, hCz, hfz, h2z⟩
      rw [hr]
      clear hr r
      refine x_ifB_eq 54 rfl rfl (fun h45 => ?_) (fun h45 => ?_)
      · refine run_ok 1 (c' := (57, [(0, .ref 0), (1, .int (nI k)), (2, .int (nI (bst (fun i => fitb (wso T (upn (tso T) k i)) (vo (wso T (upn (tso T) k i)) 24) G G.1) i))), (3, .int (nI i + nI 1))], [], z)) rfl ?_
        rw [nI_add i 1]
        refine run_ok 1 (c' := (26, [(0, .ref 0), (1, .int (nI k)), (2, .int (nI (bst (fun i => fitb (wso T (upn (tso T) k i)) (vo (wso T (upn (tso T) k i)) 24) G G.1) i))), (3, .int (nI (i + 1)))], [], z)) rfl ?_
        rw [show bst (fun i => fitb (wso T (upn (tso T) k i)) (vo (wso T (upn (tso T) k i)) 24) G G.1) (i + 1) = bst (fun i => fitb (wso T (upn (tso T) k i)) (vo (wso T (upn (tso T) k i)) 24) G G.1) i from bst_z (by simpa using h45)] at ih
        exact ih z (upn (tso T) k i) hTz (fun j hj => upn_n hj) (hfv.tr ((fr.rf.pt (by decide)).tr (hfz.sub (by decide)))) (by rw [h2z]; exact hsw)
      · refine run_ok 5 (c' := (53, [(0, .ref 0), (1, .int (nI k)), (2, .int (nI (bst (fun i => fitb (wso T (upn (tso T) k i)) (vo (wso T (upn (tso T) k i)) 24) G G.1) i))), (3, .int (nI i))], [.int ((nI (bst (fun i => fitb (wso T (upn (tso T) k i)) (vo (wso T (upn (tso T) k i)) 24) G G.1) i)) ||| ((nI 1) <<< ((nI i) &&& 31)))], z)) rfl ?_
        refine x_top (v' := nI (bst (fun i => fitb (wso T (upn (tso T) k i)) (vo (wso T (upn (tso T) k i)) 24) G G.1) i + 1 * 2 ^ i)) (or_bit (bst_lt _ _) (by omega)) ?_
        refine run_ok 2 (c' := (57, [(0, .ref 0), (1, .int (nI k)), (2, .int (nI (bst (fun i => fitb (wso T (upn (tso T) k i)) (vo (wso T (upn (tso T) k i)) 24) G G.1) i + 1 * 2 ^ i))), (3, .int (nI i + nI 1))], [], z)) rfl ?_
        rw [nI_add i 1]
        refine run_ok 1 (c' := (26, [(0, .ref 0), (1, .int (nI k)), (2, .int (nI (bst (fun i => fitb (wso T (upn (tso T) k i)) (vo (wso T (upn (tso T) k i)) 24) G G.1) i + 1 * 2 ^ i))), (3, .int (nI (i + 1)))], [], z)) rfl ?_
        rw [show bst (fun i => fitb (wso T (upn (tso T) k i)) (vo (wso T (upn (tso T) k i)) 24) G G.1) (i + 1) = bst (fun i => fitb (wso T (upn (tso T) k i)) (vo (wso T (upn (tso T) k i)) 24) G G.1) i + 1 * 2 ^ i from bst_s h45] at ih
        exact ih z (upn (tso T) k i) hTz (fun j hj => upn_n hj) (hfv.tr ((fr.rf.pt (by decide)).tr (hfz.sub (by decide)))) (by rw [h2z]; exact hsw)
  refine run_ok 2 (c' := (2, [(0, .ref 0), (1, .int (nI k))], [.int (nI k), .ref 0], S)) rfl ?_
  refine x_callV [.int (nI k)] rfl cv_N_isBoat.1 lk_6_107 cv_N_isBoat.2.1 cv_N_isBoat.2.2.1 rfl cv_N_isBoat.2.2.2.1 rfl rfl (Nat.le_of_ble_eq_true rfl) (by decide) cv_N_isBoat.2.2.2.2 (c_isBoat S (nI k) (tnb T) t9) ?_
  rintro r u ⟨hr, hu⟩
  rw [hr, hu]
  clear hr hu r u
  refine x_ifB_ne 11 rfl rfl (fun h5 => ?_) (fun hn => absurd (inr_t hk (by omega)) hn)
  refine run_ok 4 (c' := (19, [(0, .ref 0), (1, .int (nI k))], [.ref 5, .ref 14], S)) rfl ?_
  refine x_callV [.ref 5] rfl cv_T_become.1 lk_6_220 cv_T_become.2.1 cv_T_become.2.2.1 rfl cv_T_become.2.2.2.1 rfl rfl (Nat.le_of_ble_eq_true rfl) (by decide) cv_T_become.2.2.2.2 (c_become S T hT hto hne) ?_
  rintro r v1 ⟨hr, hTb, hfb, h2b⟩
  rw [hr]
  clear hr r
  refine run_ok 4 (c' := (26, [(0, .ref 0), (1, .int (nI k)), (2, .int (nI 0)), (3, .int (nI 0))], [], v1)) rfl ?_
  exact H 0 (by omega) v1 (tso T) hTb (fun _ _ => rfl) (hfb.sub (by decide)) (by rw [h2b])


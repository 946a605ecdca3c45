/-! public calls of the class: loved, bitter, events, sightings, decades -/
def bst (p : Nat → Bool) : Nat → Nat
  | 0 => 0
  | n + 1 => bst p n + (if p n = true then 2 ^ n else 0)
theorem bst_lt (p : Nat → Bool) : ∀ n, bst p n < 2 ^ n := by
  intro n
  induction n with
  | zero => exact Nat.one_pos
  | succ n ih =>
    show bst p n + (if p n = true then 2 ^ n else 0) < 2 ^ (n + 1)
    rw [Nat.pow_succ]
    split <;> omega
theorem bst_s {p : Nat → Bool} {i : Nat} (h : p i = true) : bst p (i + 1) = bst p i + 1 * 2 ^ i := by
  show bst p i + (if p i = true then 2 ^ i else 0) = _
  rw [if_pos h, Nat.one_mul]
theorem bst_z {p : Nat → Bool} {i : Nat} (h : p i = false) : bst p (i + 1) = bst p i := by
  show bst p i + (if p i = true then 2 ^ i else 0) = _
  rw [if_neg (by rw [h]; decide)]
  rfl
theorem or_bit {a i : Nat} (ha : a < 2 ^ i) (hi : i < 32) : nI a ||| (nI 1 <<< (nI i &&& 31)) = nI (a + 1 * 2 ^ i) := or_up ha hi (by rw [Nat.one_mul]; exact Nat.pow_lt_pow_right (by decide) hi)
def bmx (f : Nat → Nat) : Nat → Nat × Nat
  | 0 => (99, 0)
  | n + 1 => bup (bmx f n) n (f n)
theorem bup_le {b : Nat × Nat} {n f m c : Nat} (h1 : b.1 ≤ m) (hn : n ≤ m) (h2 : b.2 ≤ c) (hf : f ≤ c) : (bup b n f).1 ≤ m ∧ (bup b n f).2 ≤ c := by
  unfold bup
  split
  · exact ⟨hn, hf⟩
  · exact ⟨h1, h2⟩
theorem bmx_le {f : Nat → Nat} {c : Nat} : ∀ n, n ≤ 99 → (∀ k, k < n → f k ≤ c) → (bmx f n).1 ≤ 99 ∧ (bmx f n).2 ≤ c := by
  intro n
  induction n with
  | zero => intro _ _; exact ⟨Nat.le_refl 99, Nat.zero_le c⟩
  | succ n ih =>
    intro hn h
    have q := ih (by omega) (fun k hk => h k (by omega))
    exact bup_le q.1 (by omega) q.2 (h n (by omega))
theorem shs_le {h : Nat → Nat} {p : Nat} (hp : p < 8) (h9 : ∀ j, j < 64 → h j ≤ 9) : ∀ n, n ≤ 8 → shs h p n ≤ 9 * n := by
  intro n
  induction n with
  | zero => intro _; exact Nat.le_refl 0
  | succ n ih =>
    intro hn
    have := ih (by omega)
    have := h9 (8 * p + n) (by omega)
    show shs h p n + h (8 * p + n) ≤ _
    omega
set_option maxHeartbeats 2000000 in
theorem c_loved (S : ST) (T : TD) (hT : TR 5 T S) (hto : tok T) : EX me_N_loved 5 [.ref 0] S (fun r u => r = some (.int (nI (bst (fun p => decide ((wst (vh (vo T 24)) p 8).1 = 8)) 8))) ∧ fr CQ S u) := by
  refine EX.of mok_N_loved (Nat.le_of_ble_eq_true rfl) ?_
  obtain ⟨n8, n9, hbt, het, hht, hlo⟩ := id hto
  obtain ⟨t1, t2, t3, t4, t5, t6, t7, t8, t9, t10, t11⟩ := id hT
  refine run_ok 5 (c' := (10, [(0, .ref 0)], [.int (nI 23), .ref 5, .ref 23], S)) rfl ?_
  refine x_callV [.ref 5, .int (nI 23)] rfl cv_V_run.1 lk_6_146 cv_V_run.2.1 cv_V_run.2.2.1 rfl cv_V_run.2.2.2.1 rfl rfl (Nat.le_of_ble_eq_true rfl) (by decide) cv_V_run.2.2.2.2 (c_run5 S T 23 hT hto (by omega)) ?_
  rintro r u ⟨hr, hCu, hfu, h2u⟩
  rw [hr]
  clear hr r
  have hTu : TR 5 T u := hT.keep hfu (by decide)
  obtain ⟨t1, t2, t3, t4, t5, t6, t7, t8, t9, t10, t11⟩ := id hTu
  obtain ⟨h24, h25, h26, h27, h28, h29, hsr, g9, g10, g11, htl⟩ := id hCu
  have hVu : vk T (vo T 24) := (vk_vo hto (23 + 1) (by omega)).1
  refine run_ok 4 (c' := (17, [(0, .ref 0), (1, .int (nI 0)), (2, .int (nI 0))], [], u)) rfl ?_
  refine loop_up (P := fun i => BX me_N_loved 5 none (fun r u => r = some (.int (nI (bst (fun p => decide ((wst (vh (vo T 24)) p 8).1 = 8)) 8))) ∧ fr CQ S u) (17, [(0, .ref 0), (1, .int (nI (bst (fun p => decide ((wst (vh (vo T 24)) p 8).1 = 8)) i))), (2, .int (nI i))], [], u)) 8 ?_ ?_ 0 (by omega)
  · skip
    refine run_ok 2 (c' := (20, [(0, .ref 0), (1, .int (nI (bst (fun p => decide ((wst (vh (vo T 24)) p 8).1 = 8)) 8))), (2, .int (nI 8))], [.int (nI 8), .int (nI 8)], u)) rfl ?_
    refine x_icmpN_ge 47 rfl rfl (by omega) (by omega) (fun h20 => ?_) (fun hn => absurd (Nat.le_refl 8) hn)
    refine run_ok 1 (c' := (48, [(0, .ref 0), (1, .int (nI (bst (fun p => decide ((wst (vh (vo T 24)) p 8).1 = 8)) 8))), (2, .int (nI 8))], [.int (nI (bst (fun p => decide ((wst (vh (vo T 24)) p 8).1 = 8)) 8))], u)) rfl ?_
    exact x_ret (r := some (.int (nI (bst (fun p => decide ((wst (vh (vo T 24)) p 8).1 = 8)) 8)))) rfl rfl trivial ⟨rfl, hfu.sub (by decide)⟩ rfl
  · intro i hi ih
    have q1 := (wst_le (vh (vo T 24)) i hVu.1 hi 8 (by omega)).1
    refine run_ok 2 (c' := (20, [(0, .ref 0), (1, .int (nI (bst (fun p => decide ((wst (vh (vo T 24)) p 8).1 = 8)) i))), (2, .int (nI i))], [.int (nI 8), .int (nI i)], u)) rfl ?_
    refine x_icmpN_ge 47 rfl rfl (by omega) (by omega) (fun hn => absurd hn (show ¬ 8 ≤ i by omega)) (fun h20 => ?_)
    refine run_ok 3 (c' := (28, [(0, .ref 0), (1, .int (nI (bst (fun p => decide ((wst (vh (vo T 24)) p 8).1 = 8)) i))), (2, .int (nI i))], [.int (nI i), .ref 23], u)) rfl ?_
    refine x_callV [.int (nI i)] rfl cv_V_worstEnemy.1 lk_6_174 cv_V_worstEnemy.2.1 cv_V_worstEnemy.2.2.1 rfl cv_V_worstEnemy.2.2.2.1 rfl rfl (Nat.le_of_ble_eq_true rfl) (by decide) cv_V_worstEnemy.2.2.2.2 (c_worst u (vh (vo T 24)) i hi h24 hVu.1) ?_
    rintro r v ⟨hr, hu⟩
    rw [hr, hu]
    clear hr hu r v
    refine run_ok 1 (c' := (32, [(0, .ref 0), (1, .int (nI (bst (fun p => decide ((wst (vh (vo T 24)) p 8).1 = 8)) i))), (2, .int (nI i))], [.int (-1), .int (nmv (wst (vh (vo T 24)) i 8).1)], u)) rfl ?_
    refine x_icmp_ne 41 rfl rfl (fun h32 => ?_) (fun h32 => ?_)
    · refine run_ok 1 (c' := (44, [(0, .ref 0), (1, .int (nI (bst (fun p => decide ((wst (vh (vo T 24)) p 8).1 = 8)) i))), (2, .int (nI i + nI 1))], [], u)) rfl ?_
      rw [nI_add i 1]
      refine run_ok 1 (c' := (17, [(0, .ref 0), (1, .int (nI (bst (fun p => decide ((wst (vh (vo T 24)) p 8).1 = 8)) i))), (2, .int (nI (i + 1)))], [], u)) rfl ?_
      rw [show bst (fun p => decide ((wst (vh (vo T 24)) p 8).1 = 8)) (i + 1) = bst (fun p => decide ((wst (vh (vo T 24)) p 8).1 = 8)) i from bst_z (decide_eq_false (fun z => h32 ((nmv_n1 q1).mpr z)))] at ih
      exact ih
    · refine run_ok 5 (c' := (40, [(0, .ref 0), (1, .int (nI (bst (fun p => decide ((wst (vh (vo T 24)) p 8).1 = 8)) i))), (2, .int (nI i))], [.int ((nI (bst (fun p => decide ((wst (vh (vo T 24)) p 8).1 = 8)) i)) ||| ((nI 1) <<< ((nI i) &&& 31)))], u)) rfl ?_
      refine x_top (v' := nI (bst (fun p => decide ((wst (vh (vo T 24)) p 8).1 = 8)) i + 1 * 2 ^ i)) (or_bit (bst_lt _ _) (by omega)) ?_
      refine run_ok 2 (c' := (44, [(0, .ref 0), (1, .int (nI (bst (fun p => decide ((wst (vh (vo T 24)) p 8).1 = 8)) i + 1 * 2 ^ i))), (2, .int (nI i + nI 1))], [], u)) rfl ?_
      rw [nI_add i 1]
      refine run_ok 1 (c' := (17, [(0, .ref 0), (1, .int (nI (bst (fun p => decide ((wst (vh (vo T 24)) p 8).1 = 8)) i + 1 * 2 ^ i))), (2, .int (nI (i + 1)))], [], u)) rfl ?_
      rw [show bst (fun p => decide ((wst (vh (vo T 24)) p 8).1 = 8)) (i + 1) = bst (fun p => decide ((wst (vh (vo T 24)) p 8).1 = 8)) i + 1 * 2 ^ i from bst_s (decide_eq_true ((nmv_n1 q1).mp h32))] at ih
      exact ih

set_option maxHeartbeats 2000000 in
theorem c_bitter (S : ST) (T : TD) (hT : TR 5 T S) (hto : tok T) : EX me_N_bitter 5 [.ref 0] S (fun r u => r = some (.int (whv (bmx (fun p => shs (vh (vo T 24)) p 8) 8).1)) ∧ fr CQ S u) := by
  refine EX.of mok_N_bitter (Nat.le_of_ble_eq_true rfl) ?_
  obtain ⟨n8, n9, hbt, het, hht, hlo⟩ := id hto
  obtain ⟨t1, t2, t3, t4, t5, t6, t7, t8, t9, t10, t11⟩ := id hT
  refine run_ok 5 (c' := (10, [(0, .ref 0)], [.int (nI 23), .ref 5, .ref 23], S)) rfl ?_
  refine x_callV [.ref 5, .int (nI 23)] rfl cv_V_run.1 lk_6_146 cv_V_run.2.1 cv_V_run.2.2.1 rfl cv_V_run.2.2.2.1 rfl rfl (Nat.le_of_ble_eq_true rfl) (by decide) cv_V_run.2.2.2.2 (c_run5 S T 23 hT hto (by omega)) ?_
  rintro r u ⟨hr, hCu, hfu, h2u⟩
  rw [hr]
  clear hr r
  have hTu : TR 5 T u := hT.keep hfu (by decide)
  obtain ⟨t1, t2, t3, t4, t5, t6, t7, t8, t9, t10, t11⟩ := id hTu
  obtain ⟨h24, h25, h26, h27, h28, h29, hsr, g9, g10, g11, htl⟩ := id hCu
  have hVu : vk T (vo T 24) := (vk_vo hto (23 + 1) (by omega)).1
  refine run_ok 2 (c' := (17, [(0, .ref 0)], [.ref 36], u)) rfl ?_
  refine x_callV [] rfl cv_B_clear.1 lk_6_177 cv_B_clear.2.1 cv_B_clear.2.2.1 rfl cv_B_clear.2.2.2.1 rfl rfl (Nat.le_of_ble_eq_true rfl) (by decide) cv_B_clear.2.2.2.2 (c_clear u) ?_
  rintro r v ⟨hr, hv⟩
  rw [hr, hv]
  clear hr hv r v
  refine run_ok 2 (c' := (22, [(0, .ref 0), (1, .int (nI 0))], [], (pt (pt u 36 0 (-1)) 36 1 (nI 0)))) rfl ?_
  refine loop_up (P := fun i => ∀ v : ST, BR (bmx (fun p => shs (vh (vo T 24)) p 8) i) v → fr [36] u v → BX me_N_bitter 5 none (fun r u => r = some (.int (whv (bmx (fun p => shs (vh (vo T 24)) p 8) 8).1)) ∧ fr CQ S u) (22, [(0, .ref 0), (1, .int (nI i))], [], v)) 8 ?_ ?_ 0 (by omega) _ ⟨rfl, rfl⟩ ((fr.rf.pt (by decide)).pt (by decide))
  · intro v hb hfv
    have hb1 := hb.1
    refine run_ok 2 (c' := (25, [(0, .ref 0), (1, .int (nI 8))], [.int (nI 8), .int (nI 8)], v)) rfl ?_
    refine x_icmpN_ge 50 rfl rfl (by omega) (by omega) (fun h25 => ?_) (fun hn => absurd (Nat.le_refl 8) hn)
    refine run_ok 3 (c' := (57, [(0, .ref 0), (1, .int (nI 8))], [.int (v.1 36 0)], v)) rfl ?_
    refine x_top (v' := whv (bmx (fun p => shs (vh (vo T 24)) p 8) 8).1) hb1 ?_
    exact x_ret (r := some (.int (whv (bmx (fun p => shs (vh (vo T 24)) p 8) 8).1))) rfl rfl trivial ⟨rfl, (hfu.sub (by decide)).tr (hfv.sub (by decide))⟩ rfl
  · intro i hi ih v hb hfv
    have q1 := shs_le (p := i) hi hVu.1 8 (by omega)
    have q2 := bmx_le (f := (fun p => shs (vh (vo T 24)) p 8)) (c := 72) i (by omega) (fun k hk => shs_le (p := k) (by omega) hVu.1 8 (by omega))
    refine run_ok 2 (c' := (25, [(0, .ref 0), (1, .int (nI i))], [.int (nI 8), .int (nI i)], v)) rfl ?_
    refine x_icmpN_ge 50 rfl rfl (by omega) (by omega) (fun hn => absurd hn (show ¬ 8 ≤ i by omega)) (fun h25 => ?_)
    refine run_ok 6 (c' := (38, [(0, .ref 0), (1, .int (nI i))], [.int (nI i), .ref 23, .int (nI i), .ref 36], v)) rfl ?_
    refine x_callV [.int (nI i)] rfl cv_V_hatredOf.1 lk_6_180 cv_V_hatredOf.2.1 cv_V_hatredOf.2.2.1 rfl cv_V_hatredOf.2.2.2.1 rfl rfl (Nat.le_of_ble_eq_true rfl) (by decide) cv_V_hatredOf.2.2.2.2 (c_hatredOf v (vo T 24) i hi (h24.keep hfv (by decide))) ?_
    rintro r z ⟨hr, hu⟩
    rw [hr, hu]
    clear hr hu r z
    refine x_callV [.int (nI i), .int (nI (shs (vh (vo T 24)) i 8))] rfl cv_B_offer.1 lk_6_183 cv_B_offer.2.1 cv_B_offer.2.2.1 rfl cv_B_offer.2.2.2.1 rfl rfl (Nat.le_of_ble_eq_true rfl) (by decide) cv_B_offer.2.2.2.2 (c_offerU v (bmx (fun p => shs (vh (vo T 24)) p 8) i) i (shs (vh (vo T 24)) i 8) hb (by omega) (by omega) (by omega) (by omega)) ?_
    rintro r z ⟨hr, hbz, hfz, h2z⟩
    rw [hr]
    clear hr r
    refine run_ok 1 (c' := (47, [(0, .ref 0), (1, .int (nI i + nI 1))], [], z)) rfl ?_
    rw [nI_add i 1]
    refine run_ok 1 (c' := (22, [(0, .ref 0), (1, .int (nI (i + 1)))], [], z)) rfl ?_
    exact ih z hbz (hfv.tr hfz)

set_option maxHeartbeats 2000000 in
theorem c_event_bad (S : ST) (x y z : Int32) (hbad : ¬ ((0 ≤ x ∧ x < nI 3) ∧ (0 ≤ y ∧ y < nI 24) ∧ (0 ≤ z ∧ z < nI 8))) : EX me_N_event 1 [.ref 0, .int x, .int y, .int z] S (fun r u => r = some (.int ((-2))) ∧ u = S) := by
  refine EX.of mok_N_event (Nat.le_of_ble_eq_true rfl) ?_
  refine run_ok 2 (c' := (2, [(0, .ref 0), (1, .int x), (2, .int y), (3, .int z)], [.int (nI 3), .int x], S)) rfl ?_
  refine x_callS [.int x, .int (nI 3)] rfl cs_N_isBelow.1 lk_6_73 cs_N_isBelow.2.1 rfl rfl (Nat.le_of_ble_eq_true rfl) (by decide) cs_N_isBelow.2.2 (c_isBelow S (x) (nI 3)) ?_
  rintro r u ⟨hr, hu⟩
  rw [hr, hu]
  clear hr hu r u
  refine x_ifB_eq 26 rfl rfl (fun h5 => ?_) (fun h5 => ?_)
  · refine run_ok 1 (c' := (28, [(0, .ref 0), (1, .int x), (2, .int y), (3, .int z)], [.int (-2)], S)) rfl ?_
    exact x_ret (r := some (.int (-2))) rfl rfl trivial ⟨rfl, rfl⟩ rfl
  · refine run_ok 2 (c' := (11, [(0, .ref 0), (1, .int x), (2, .int y), (3, .int z)], [.int (nI 24), .int y], S)) rfl ?_
    refine x_callS [.int y, .int (nI 24)] rfl cs_N_isBelow.1 lk_6_73 cs_N_isBelow.2.1 rfl rfl (Nat.le_of_ble_eq_true rfl) (by decide) cs_N_isBelow.2.2 (c_isBelow S (y) (nI 24)) ?_
    rintro r u ⟨hr, hu⟩
    rw [hr, hu]
    clear hr hu r u
    refine x_ifB_eq 26 rfl rfl (fun h14 => ?_) (fun h14 => ?_)
    · refine run_ok 1 (c' := (28, [(0, .ref 0), (1, .int x), (2, .int y), (3, .int z)], [.int (-2)], S)) rfl ?_
      exact x_ret (r := some (.int (-2))) rfl rfl trivial ⟨rfl, rfl⟩ rfl
    · refine run_ok 2 (c' := (20, [(0, .ref 0), (1, .int x), (2, .int y), (3, .int z)], [.int (nI 8), .int z], S)) rfl ?_
      refine x_callS [.int z, .int (nI 8)] rfl cs_N_isBelow.1 lk_6_73 cs_N_isBelow.2.1 rfl rfl (Nat.le_of_ble_eq_true rfl) (by decide) cs_N_isBelow.2.2 (c_isBelow S (z) (nI 8)) ?_
      rintro r u ⟨hr, hu⟩
      rw [hr, hu]
      clear hr hu r u
      refine x_ifB_ne 29 rfl rfl (fun h23 => ?_) (fun h23 => ?_)
      · exact absurd ⟨h5, h14, h23⟩ hbad
      · refine run_ok 1 (c' := (28, [(0, .ref 0), (1, .int x), (2, .int y), (3, .int z)], [.int (-2)], S)) rfl ?_
        exact x_ret (r := some (.int (-2))) rfl rfl trivial ⟨rfl, rfl⟩ rfl

set_option maxHeartbeats 2000000 in
theorem c_event_ok (S : ST) (T : TD) (hT : TR 5 T S) (hto : tok T) (kd w b : Nat) (hkd : kd < 3) (hw : w < 24) (hb : b < 8) (hne : tne T < 8) : EX me_N_event 1 [.ref 0, .int (nI kd), .int (nI w), .int (nI b)] S (fun r u => r = some (.int (nI (tne T + 1))) ∧ TR 5 (wev T (tne T + 1) (upn (tek T) (tne T) kd) (upn (tew T) (tne T) w) (upn (teb T) (tne T) b)) u ∧ fr [5, 11, 12, 13] S u ∧ u.2 = S.2) := by
  refine EX.of mok_N_event (Nat.le_of_ble_eq_true rfl) ?_
  obtain ⟨n8, n9, hbt, het, hht, hlo⟩ := id hto
  obtain ⟨t1, t2, t3, t4, t5, t6, t7, t8, t9, t10, t11⟩ := id hT
  refine run_ok 2 (c' := (2, [(0, .ref 0), (1, .int (nI kd)), (2, .int (nI w)), (3, .int (nI b))], [.int (nI 3), .int (nI kd)], S)) rfl ?_
  refine x_callS [.int (nI kd), .int (nI 3)] rfl cs_N_isBelow.1 lk_6_73 cs_N_isBelow.2.1 rfl rfl (Nat.le_of_ble_eq_true rfl) (by decide) cs_N_isBelow.2.2 (c_isBelow S (nI kd) (nI 3)) ?_
  rintro r u ⟨hr, hu⟩
  rw [hr, hu]
  clear hr hu r u
  refine x_ifB_eq 26 rfl rfl (fun hn => absurd hn (fun z => z (inr_t hkd (by decide)))) (fun h5 => ?_)
  refine run_ok 2 (c' := (11, [(0, .ref 0), (1, .int (nI kd)), (2, .int (nI w)), (3, .int (nI b))], [.int (nI 24), .int (nI w)], S)) rfl ?_
  refine x_callS [.int (nI w), .int (nI 24)] rfl cs_N_isBelow.1 lk_6_73 cs_N_isBelow.2.1 rfl rfl (Nat.le_of_ble_eq_true rfl) (by decide) cs_N_isBelow.2.2 (c_isBelow S (nI w) (nI 24)) ?_
  rintro r u ⟨hr, hu⟩
  rw [hr, hu]
  clear hr hu r u
  refine x_ifB_eq 26 rfl rfl (fun hn => absurd hn (fun z => z (inr_t hw (by decide)))) (fun h14 => ?_)
  refine run_ok 2 (c' := (20, [(0, .ref 0), (1, .int (nI kd)), (2, .int (nI w)), (3, .int (nI b))], [.int (nI 8), .int (nI b)], S)) rfl ?_
  refine x_callS [.int (nI b), .int (nI 8)] rfl cs_N_isBelow.1 lk_6_73 cs_N_isBelow.2.1 rfl rfl (Nat.le_of_ble_eq_true rfl) (by decide) cs_N_isBelow.2.2 (c_isBelow S (nI b) (nI 8)) ?_
  rintro r u ⟨hr, hu⟩
  rw [hr, hu]
  clear hr hu r u
  refine x_ifB_ne 29 rfl rfl (fun h23 => ?_) (fun hn => absurd (inr_t hb (by decide)) hn)
  refine run_ok 3 (c' := (36, [(0, .ref 0), (1, .int (nI kd)), (2, .int (nI w)), (3, .int (nI b))], [.int (S.1 5 10)], S)) rfl ?_
  refine x_top (v' := nI (tne T)) t10 ?_
  refine run_ok 1 (c' := (38, [(0, .ref 0), (1, .int (nI kd)), (2, .int (nI w)), (3, .int (nI b))], [.int (nI 8), .int (nI (tne T))], S)) rfl ?_
  refine x_icmpN_lt 44 rfl rfl (by omega) (by omega) (fun h38 => ?_) (fun hn => absurd (show tne T < 8 by omega) hn)
  refine run_ok 5 (c' := (51, [(0, .ref 0), (1, .int (nI kd)), (2, .int (nI w)), (3, .int (nI b))], [.int (nI b), .int (nI w), .int (nI kd), .ref 5], S)) rfl ?_
  refine x_callV [.int (nI kd), .int (nI w), .int (nI b)] rfl cv_T_addEvent.1 lk_6_126 cv_T_addEvent.2.1 cv_T_addEvent.2.2.1 rfl cv_T_addEvent.2.2.2.1 rfl rfl (Nat.le_of_ble_eq_true rfl) (by decide) cv_T_addEvent.2.2.2.2 (c_addEvent5 S T kd w b hT (by omega)) ?_
  rintro r u ⟨hr, hTu, hfu, h2u⟩
  rw [hr]
  clear hr r
  have t10u := hTu.2.2.2.2.2.2.2.2.2.1
  refine run_ok 3 (c' := (61, [(0, .ref 0), (1, .int (nI kd)), (2, .int (nI w)), (3, .int (nI b))], [.int (u.1 5 10)], u)) rfl ?_
  refine x_top (v' := nI (tne T + 1)) t10u ?_
  exact x_ret (r := some (.int (nI (tne T + 1)))) rfl rfl trivial ⟨rfl, hTu, hfu, h2u⟩ rfl

set_option maxHeartbeats 2000000 in
theorem c_event_full (S : ST) (T : TD) (hT : TR 5 T S) (hto : tok T) (kd w b : Nat) (hkd : kd < 3) (hw : w < 24) (hb : b < 8) (hne : ¬ tne T < 8) : EX me_N_event 1 [.ref 0, .int (nI kd), .int (nI w), .int (nI b)] S (fun r u => r = some (.int (-4)) ∧ u = S) := by
  refine EX.of mok_N_event (Nat.le_of_ble_eq_true rfl) ?_
  obtain ⟨n8, n9, hbt, het, hht, hlo⟩ := id hto
  obtain ⟨t1, t2, t3, t4, t5, t6, t7, t8, t9, t10, t11⟩ := id hT
  refine run_ok 2 (c' := (2, [(0, .ref 0), (1, .int (nI kd)), (2, .int (nI w)), (3, .int (nI b))], [.int (nI 3), .int (nI kd)], S)) rfl ?_
  refine x_callS [.int (nI kd), .int (nI 3)] rfl cs_N_isBelow.1 lk_6_73 cs_N_isBelow.2.1 rfl rfl (Nat.le_of_ble_eq_true rfl) (by decide) cs_N_isBelow.2.2 (c_isBelow S (nI kd) (nI 3)) ?_
  rintro r u ⟨hr, hu⟩
  rw [hr, hu]
  clear hr hu r u
  refine x_ifB_eq 26 rfl rfl (fun hn => absurd hn (fun z => z (inr_t hkd (by decide)))) (fun h5 => ?_)
  refine run_ok 2 (c' := (11, [(0, .ref 0), (1, .int (nI kd)), (2, .int (nI w)), (3, .int (nI b))], [.int (nI 24), .int (nI w)], S)) rfl ?_
  refine x_callS [.int (nI w), .int (nI 24)] rfl cs_N_isBelow.1 lk_6_73 cs_N_isBelow.2.1 rfl rfl (Nat.le_of_ble_eq_true rfl) (by decide) cs_N_isBelow.2.2 (c_isBelow S (nI w) (nI 24)) ?_
  rintro r u ⟨hr, hu⟩
  rw [hr, hu]
  clear hr hu r u
  refine x_ifB_eq 26 rfl rfl (fun hn => absurd hn (fun z => z (inr_t hw (by decide)))) (fun h14 => ?_)
  refine run_ok 2 (c' := (20, [(0, .ref 0), (1, .int (nI kd)), (2, .int (nI w)), (3, .int (nI b))], [.int (nI 8), .int (nI b)], S)) rfl ?_
  refine x_callS [.int (nI b), .int (nI 8)] rfl cs_N_isBelow.1 lk_6_73 cs_N_isBelow.2.1 rfl rfl (Nat.le_of_ble_eq_true rfl) (by decide) cs_N_isBelow.2.2 (c_isBelow S (nI b) (nI 8)) ?_
  rintro r u ⟨hr, hu⟩
  rw [hr, hu]
  clear hr hu r u
  refine x_ifB_ne 29 rfl rfl (fun h23 => ?_) (fun hn => absurd (inr_t hb (by decide)) hn)
  refine run_ok 3 (c' := (36, [(0, .ref 0), (1, .int (nI kd)), (2, .int (nI w)), (3, .int (nI b))], [.int (S.1 5 10)], S)) rfl ?_
  refine x_top (v' := nI (tne T)) t10 ?_
  refine run_ok 1 (c' := (38, [(0, .ref 0), (1, .int (nI kd)), (2, .int (nI w)), (3, .int (nI b))], [.int (nI 8), .int (nI (tne T))], S)) rfl ?_
  refine x_icmpN_lt 44 rfl rfl (by omega) (by omega) (fun hn => absurd hn (show ¬ tne T < 8 by omega)) (fun h38 => ?_)
  refine run_ok 1 (c' := (43, [(0, .ref 0), (1, .int (nI kd)), (2, .int (nI w)), (3, .int (nI b))], [.int (-4)], S)) rfl ?_
  exact x_ret (r := some (.int (-4))) rfl rfl trivial ⟨rfl, rfl⟩ rfl

set_option maxHeartbeats 2000000 in
theorem c_back_not (S : ST) (T : TD) (hT : TR 5 T S) (hto : tok T) (hne : tne T = 0) : EX me_N_back 0 [.ref 0] S (fun r u => r = some (.int (-3)) ∧ u = S) := by
  refine EX.of mok_N_back (Nat.le_of_ble_eq_true rfl) ?_
  obtain ⟨n8, n9, hbt, het, hht, hlo⟩ := id hto
  obtain ⟨t1, t2, t3, t4, t5, t6, t7, t8, t9, t10, t11⟩ := id hT
  refine run_ok 3 (c' := (7, [(0, .ref 0)], [.int (S.1 5 10)], S)) rfl ?_
  refine x_top (v' := nI (tne T)) t10 ?_
  refine x_ifN_ne 13 rfl rfl (by omega) (fun hn => absurd hne hn) (fun h7 => ?_)
  refine run_ok 1 (c' := (12, [(0, .ref 0)], [.int (-3)], S)) rfl ?_
  exact x_ret (r := some (.int (-3))) rfl rfl trivial ⟨rfl, rfl⟩ rfl

set_option maxHeartbeats 2000000 in
theorem c_back_ok (S : ST) (T : TD) (hT : TR 5 T S) (hto : tok T) (hne : ¬ tne T = 0) : EX me_N_back 0 [.ref 0] S (fun r u => r = some (.int (nI (tne T - 1))) ∧ TR 5 (wev T (tne T - 1) (tek T) (tew T) (teb T)) u ∧ fr [5] S u ∧ u.2 = S.2) := by
  refine EX.of mok_N_back (Nat.le_of_ble_eq_true rfl) ?_
  obtain ⟨n8, n9, hbt, het, hht, hlo⟩ := id hto
  obtain ⟨t1, t2, t3, t4, t5, t6, t7, t8, t9, t10, t11⟩ := id hT
  refine run_ok 3 (c' := (7, [(0, .ref 0)], [.int (S.1 5 10)], S)) rfl ?_
  refine x_top (v' := nI (tne T)) t10 ?_
  refine x_ifN_ne 13 rfl rfl (by omega) (fun h7 => ?_) (fun hn => absurd hn hne)
  refine run_ok 4 (c' := (21, [(0, .ref 0)], [.int (S.1 5 10), .ref 5], S)) rfl ?_
  refine x_top (v' := nI (tne T)) t10 ?_
  refine run_ok 2 (c' := (23, [(0, .ref 0)], [.int ((nI (tne T)) - (nI 1)), .ref 5], S)) rfl ?_
  refine x_top (v' := nI (tne T - 1)) (pk_sub (by omega)) ?_
  refine run_ok 4 (c' := (33, [(0, .ref 0)], [.int (nI (tne T - 1))], (pt S 5 10 (nI (tne T - 1))))) rfl ?_
  exact x_ret (r := some (.int (nI (tne T - 1)))) rfl rfl trivial ⟨rfl, ⟨t1, t2, t3, t4, t5, t6.le (by show tne T - 1 ≤ tne T; omega), t7.le (by show tne T - 1 ≤ tne T; omega), t8.le (by show tne T - 1 ≤ tne T; omega), t9, rfl, t11⟩, fr.rf.pt (by decide), rfl⟩ rfl

set_option maxHeartbeats 2000000 in
theorem c_seen_bad (S : ST) (x y z : Int32) (hbad : ¬ ((0 ≤ x ∧ x < nI 24) ∧ (0 ≤ y ∧ y < nI 8) ∧ (0 ≤ z ∧ z < nI 9))) : EX me_N_seen 1 [.ref 0, .int x, .int y, .int z] S (fun r u => r = some (.int ((-2))) ∧ u = S) := by
  refine EX.of mok_N_seen (Nat.le_of_ble_eq_true rfl) ?_
  refine run_ok 2 (c' := (3, [(0, .ref 0), (1, .int x), (2, .int y), (3, .int z)], [.int (nI 24), .int x], S)) rfl ?_
  refine x_callS [.int x, .int (nI 24)] rfl cs_N_isBelow.1 lk_6_73 cs_N_isBelow.2.1 rfl rfl (Nat.le_of_ble_eq_true rfl) (by decide) cs_N_isBelow.2.2 (c_isBelow S (x) (nI 24)) ?_
  rintro r u ⟨hr, hu⟩
  rw [hr, hu]
  clear hr hu r u
  refine x_ifB_eq 27 rfl rfl (fun h6 => ?_) (fun h6 => ?_)
  · refine run_ok 1 (c' := (29, [(0, .ref 0), (1, .int x), (2, .int y), (3, .int z)], [.int (-2)], S)) rfl ?_
    exact x_ret (r := some (.int (-2))) rfl rfl trivial ⟨rfl, rfl⟩ rfl
  · refine run_ok 2 (c' := (12, [(0, .ref 0), (1, .int x), (2, .int y), (3, .int z)], [.int (nI 8), .int y], S)) rfl ?_
    refine x_callS [.int y, .int (nI 8)] rfl cs_N_isBelow.1 lk_6_73 cs_N_isBelow.2.1 rfl rfl (Nat.le_of_ble_eq_true rfl) (by decide) cs_N_isBelow.2.2 (c_isBelow S (y) (nI 8)) ?_
    rintro r u ⟨hr, hu⟩
    rw [hr, hu]
    clear hr hu r u
    refine x_ifB_eq 27 rfl rfl (fun h15 => ?_) (fun h15 => ?_)
    · refine run_ok 1 (c' := (29, [(0, .ref 0), (1, .int x), (2, .int y), (3, .int z)], [.int (-2)], S)) rfl ?_
      exact x_ret (r := some (.int (-2))) rfl rfl trivial ⟨rfl, rfl⟩ rfl
    · refine run_ok 2 (c' := (21, [(0, .ref 0), (1, .int x), (2, .int y), (3, .int z)], [.int (nI 9), .int z], S)) rfl ?_
      refine x_callS [.int z, .int (nI 9)] rfl cs_N_isBelow.1 lk_6_73 cs_N_isBelow.2.1 rfl rfl (Nat.le_of_ble_eq_true rfl) (by decide) cs_N_isBelow.2.2 (c_isBelow S (z) (nI 9)) ?_
      rintro r u ⟨hr, hu⟩
      rw [hr, hu]
      clear hr hu r u
      refine x_ifB_ne 30 rfl rfl (fun h24 => ?_) (fun h24 => ?_)
      · exact absurd ⟨h6, h15, h24⟩ hbad
      · refine run_ok 1 (c' := (29, [(0, .ref 0), (1, .int x), (2, .int y), (3, .int z)], [.int (-2)], S)) rfl ?_
        exact x_ret (r := some (.int (-2))) rfl rfl trivial ⟨rfl, rfl⟩ rfl

set_option maxHeartbeats 2000000 in
theorem c_gappend (S : ST) (G : SD) (w b p : Nat) (hg : SR G S) (hn : G.1 < 8) : EX me_G_append 0 [.ref 32, .int (nI w), .int (nI b), .int (nI p)] S (fun r u => r = none ∧ SR (G.1 + 1, upn G.2.1 G.1 w, upn G.2.2.1 G.1 b, upn G.2.2.2 G.1 p) u ∧ fr [32, 33, 34, 35] S u ∧ u.2 = S.2) := by
  refine EX.of mok_G_append (Nat.le_of_ble_eq_true rfl) ?_
  have hg1 := hg.1
  refine run_ok 4 (c' := (8, [(0, .ref 32), (1, .int (nI w)), (2, .int (nI b)), (3, .int (nI p))], [.int (S.1 32 3), .ref 33], S)) rfl ?_
  refine x_top (v' := nI G.1) hg1 ?_
  refine run_ok 1 (c' := (9, [(0, .ref 32), (1, .int (nI w)), (2, .int (nI b)), (3, .int (nI p))], [.int (nI w), .int (nI G.1), .ref 33], S)) rfl ?_
  refine x_isN rfl rfl (by decide) (by omega) ?_
  refine run_ok 4 (c' := (18, [(0, .ref 32), (1, .int (nI w)), (2, .int (nI b)), (3, .int (nI p))], [.int (S.1 32 3), .ref 34], (pt S 33 G.1 (nI w)))) rfl ?_
  refine x_top (v' := nI G.1) hg1 ?_
  refine run_ok 1 (c' := (19, [(0, .ref 32), (1, .int (nI w)), (2, .int (nI b)), (3, .int (nI p))], [.int (nI b), .int (nI G.1), .ref 34], (pt S 33 G.1 (nI w)))) rfl ?_
  refine x_isN rfl rfl (by decide) (by omega) ?_
  refine run_ok 4 (c' := (28, [(0, .ref 32), (1, .int (nI w)), (2, .int (nI b)), (3, .int (nI p))], [.int (S.1 32 3), .ref 35], (pt (pt S 33 G.1 (nI w)) 34 G.1 (nI b)))) rfl ?_
  refine x_top (v' := nI G.1) hg1 ?_
  refine run_ok 1 (c' := (29, [(0, .ref 32), (1, .int (nI w)), (2, .int (nI b)), (3, .int (nI p))], [.int (nI p), .int (nI G.1), .ref 35], (pt (pt S 33 G.1 (nI w)) 34 G.1 (nI b)))) rfl ?_
  refine x_isN rfl rfl (by decide) (by omega) ?_
  refine run_ok 3 (c' := (35, [(0, .ref 32), (1, .int (nI w)), (2, .int (nI b)), (3, .int (nI p))], [.int (S.1 32 3), .ref 32], (pt (pt (pt S 33 G.1 (nI w)) 34 G.1 (nI b)) 35 G.1 (nI p)))) rfl ?_
  refine x_top (v' := nI G.1) hg1 ?_
  refine run_ok 2 (c' := (37, [(0, .ref 32), (1, .int (nI w)), (2, .int (nI b)), (3, .int (nI p))], [.int ((nI G.1) + (nI 1)), .ref 32], (pt (pt (pt S 33 G.1 (nI w)) 34 G.1 (nI b)) 35 G.1 (nI p)))) rfl ?_
  refine x_top (v' := nI (G.1 + 1)) (nI_add _ _) ?_
  refine run_ok 1 (c' := (40, [(0, .ref 32), (1, .int (nI w)), (2, .int (nI b)), (3, .int (nI p))], [], (pt (pt (pt (pt S 33 G.1 (nI w)) 34 G.1 (nI b)) 35 G.1 (nI p)) 32 3 (nI (G.1 + 1))))) rfl ?_
  refine x_ret (r := none) rfl rfl trivial ?_ rfl
  have ex : ∀ (f : Nat → Nat) (v : Nat) (k : Nat), rh S k G.1 f → ∀ j, j < G.1 + 1 → upd (S.1 k) G.1 (nI v) j = nI (upn f G.1 v j) := by
    intro f v k h j hj
    unfold upd upn
    split
    · rfl
    · exact h j (by omega)
  refine ⟨rfl, ⟨rfl, ex _ _ _ hg.2.1, ex _ _ _ hg.2.2.1, ex _ _ _ hg.2.2.2⟩, ?_, rfl⟩
  refine fr.pt (fr.pt (fr.pt (fr.pt fr.rf ?_) ?_) ?_) ?_ <;> decide

set_option maxHeartbeats 2000000 in
theorem c_seen_ok (S : ST) (G : SD) (w b p : Nat) (hw : w < 24) (hb : b < 8) (hp : p < 9) (hg : SR G S) (hn8 : G.1 < 8) : EX me_N_seen 1 [.ref 0, .int (nI w), .int (nI b), .int (nI p)] S (fun r u => r = some (.int (nI (G.1 + 1))) ∧ SR (G.1 + 1, upn G.2.1 G.1 w, upn G.2.2.1 G.1 b, upn G.2.2.2 G.1 p) u ∧ fr [32, 33, 34, 35] S u ∧ u.2 = S.2) := by
  refine EX.of mok_N_seen (Nat.le_of_ble_eq_true rfl) ?_
  have hg1 := hg.1
  refine run_ok 2 (c' := (3, [(0, .ref 0), (1, .int (nI w)), (2, .int (nI b)), (3, .int (nI p))], [.int (nI 24), .int (nI w)], S)) rfl ?_
  refine x_callS [.int (nI w), .int (nI 24)] rfl cs_N_isBelow.1 lk_6_73 cs_N_isBelow.2.1 rfl rfl (Nat.le_of_ble_eq_true rfl) (by decide) cs_N_isBelow.2.2 (c_isBelow S (nI w) (nI 24)) ?_
  rintro r u ⟨hr, hu⟩
  rw [hr, hu]
  clear hr hu r u
  refine x_ifB_eq 27 rfl rfl (fun hn => absurd hn (fun z => z (inr_t hw (by decide)))) (fun h6 => ?_)
  refine run_ok 2 (c' := (12, [(0, .ref 0), (1, .int (nI w)), (2, .int (nI b)), (3, .int (nI p))], [.int (nI 8), .int (nI b)], S)) rfl ?_
  refine x_callS [.int (nI b), .int (nI 8)] rfl cs_N_isBelow.1 lk_6_73 cs_N_isBelow.2.1 rfl rfl (Nat.le_of_ble_eq_true rfl) (by decide) cs_N_isBelow.2.2 (c_isBelow S (nI b) (nI 8)) ?_
  rintro r u ⟨hr, hu⟩
  rw [hr, hu]
  clear hr hu r u
  refine x_ifB_eq 27 rfl rfl (fun hn => absurd hn (fun z => z (inr_t hb (by decide)))) (fun h15 => ?_)
  refine run_ok 2 (c' := (21, [(0, .ref 0), (1, .int (nI w)), (2, .int (nI b)), (3, .int (nI p))], [.int (nI 9), .int (nI p)], S)) rfl ?_
  refine x_callS [.int (nI p), .int (nI 9)] rfl cs_N_isBelow.1 lk_6_73 cs_N_isBelow.2.1 rfl rfl (Nat.le_of_ble_eq_true rfl) (by decide) cs_N_isBelow.2.2 (c_isBelow S (nI p) (nI 9)) ?_
  rintro r u ⟨hr, hu⟩
  rw [hr, hu]
  clear hr hu r u
  refine x_ifB_ne 30 rfl rfl (fun h24 => ?_) (fun hn => absurd (inr_t hp (by decide)) hn)
  refine run_ok 3 (c' := (37, [(0, .ref 0), (1, .int (nI w)), (2, .int (nI b)), (3, .int (nI p))], [.int (S.1 32 3)], S)) rfl ?_
  refine x_top (v' := nI G.1) hg1 ?_
  refine run_ok 1 (c' := (39, [(0, .ref 0), (1, .int (nI w)), (2, .int (nI b)), (3, .int (nI p))], [.int (nI 8), .int (nI G.1)], S)) rfl ?_
  refine x_icmpN_lt 45 rfl rfl (by omega) (by omega) (fun h39 => ?_) (fun hn => absurd hn8 hn)
  refine run_ok 5 (c' := (52, [(0, .ref 0), (1, .int (nI w)), (2, .int (nI b)), (3, .int (nI p))], [.int (nI p), .int (nI b), .int (nI w), .ref 32], S)) rfl ?_
  refine x_callV [.int (nI w), .int (nI b), .int (nI p)] rfl cv_G_append.1 lk_6_218 cv_G_append.2.1 cv_G_append.2.2.1 rfl cv_G_append.2.2.2.1 rfl rfl (Nat.le_of_ble_eq_true rfl) (by decide) cv_G_append.2.2.2.2 (c_gappend S G w b p hg hn8) ?_
  rintro r u ⟨hr, hgu, hfu, h2u⟩
  rw [hr]
  clear hr r
  have hgu1 := hgu.1
  refine run_ok 3 (c' := (62, [(0, .ref 0), (1, .int (nI w)), (2, .int (nI b)), (3, .int (nI p))], [.int (u.1 32 3)], u)) rfl ?_
  refine x_top (v' := nI (G.1 + 1)) hgu1 ?_
  exact x_ret (r := some (.int (nI (G.1 + 1)))) rfl rfl trivial ⟨rfl, hgu, hfu, h2u⟩ rfl

set_option maxHeartbeats 2000000 in
theorem c_seen_full (S : ST) (G : SD) (w b p : Nat) (hw : w < 24) (hb : b < 8) (hp : p < 9) (hg : SR G S) (hn : G.1 = 8) : EX me_N_seen 1 [.ref 0, .int (nI w), .int (nI b), .int (nI p)] S (fun r u => r = some (.int (-4)) ∧ u = S) := by
  refine EX.of mok_N_seen (Nat.le_of_ble_eq_true rfl) ?_
  have hg1 := hg.1
  refine run_ok 2 (c' := (3, [(0, .ref 0), (1, .int (nI w)), (2, .int (nI b)), (3, .int (nI p))], [.int (nI 24), .int (nI w)], S)) rfl ?_
  refine x_callS [.int (nI w), .int (nI 24)] rfl cs_N_isBelow.1 lk_6_73 cs_N_isBelow.2.1 rfl rfl (Nat.le_of_ble_eq_true rfl) (by decide) cs_N_isBelow.2.2 (c_isBelow S (nI w) (nI 24)) ?_
  rintro r u ⟨hr, hu⟩
  rw [hr, hu]
  clear hr hu r u
  refine x_ifB_eq 27 rfl rfl (fun hn => absurd hn (fun z => z (inr_t hw (by decide)))) (fun h6 => ?_)
  refine run_ok 2 (c' := (12, [(0, .ref 0), (1, .int (nI w)), (2, .int (nI b)), (3, .int (nI p))], [.int (nI 8), .int (nI b)], S)) rfl ?_
  refine x_callS [.int (nI b), .int (nI 8)] rfl cs_N_isBelow.1 lk_6_73 cs_N_isBelow.2.1 rfl rfl (Nat.le_of_ble_eq_true rfl) (by decide) cs_N_isBelow.2.2 (c_isBelow S (nI b) (nI 8)) ?_
  rintro r u ⟨hr, hu⟩
  rw [hr, hu]
  clear hr hu r u
  refine x_ifB_eq 27 rfl rfl (fun hn => absurd hn (fun z => z (inr_t hb (by decide)))) (fun h15 => ?_)
  refine run_ok 2 (c' := (21, [(0, .ref 0), (1, .int (nI w)), (2, .int (nI b)), (3, .int (nI p))], [.int (nI 9), .int (nI p)], S)) rfl ?_
  refine x_callS [.int (nI p), .int (nI 9)] rfl cs_N_isBelow.1 lk_6_73 cs_N_isBelow.2.1 rfl rfl (Nat.le_of_ble_eq_true rfl) (by decide) cs_N_isBelow.2.2 (c_isBelow S (nI p) (nI 9)) ?_
  rintro r u ⟨hr, hu⟩
  rw [hr, hu]
  clear hr hu r u
  refine x_ifB_ne 30 rfl rfl (fun h24 => ?_) (fun hn => absurd (inr_t hp (by decide)) hn)
  refine run_ok 3 (c' := (37, [(0, .ref 0), (1, .int (nI w)), (2, .int (nI b)), (3, .int (nI p))], [.int (S.1 32 3)], S)) rfl ?_
  refine x_top (v' := nI G.1) hg1 ?_
  refine run_ok 1 (c' := (39, [(0, .ref 0), (1, .int (nI w)), (2, .int (nI b)), (3, .int (nI p))], [.int (nI 8), .int (nI G.1)], S)) rfl ?_
  refine x_icmpN_lt 45 rfl rfl (by omega) (by omega) (fun hn => absurd hn (show ¬ G.1 < 8 by omega)) (fun h39 => ?_)
  refine run_ok 1 (c' := (44, [(0, .ref 0), (1, .int (nI w)), (2, .int (nI b)), (3, .int (nI p))], [.int (-4)], S)) rfl ?_
  exact x_ret (r := some (.int (-4))) rfl rfl trivial ⟨rfl, rfl⟩ rfl

set_option maxHeartbeats 2000000 in
theorem c_forget (S : ST) (G : SD) (hg : SR G S) : EX me_N_forget 0 [.ref 0] S (fun r u => r = some (.int (nI G.1)) ∧ SR (0, G.2) u ∧ fr [32] S u ∧ u.2 = S.2) := by
  refine EX.of mok_N_forget (Nat.le_of_ble_eq_true rfl) ?_
  have hg1 := hg.1
  refine run_ok 3 (c' := (7, [(0, .ref 0)], [.int (S.1 32 3)], S)) rfl ?_
  refine x_top (v' := nI G.1) hg1 ?_
  refine run_ok 6 (c' := (17, [(0, .ref 0), (1, .int (nI G.1))], [.int (nI G.1)], (pt S 32 3 (nI 0)))) rfl ?_
  exact x_ret (r := some (.int (nI G.1))) rfl rfl trivial ⟨rfl, ⟨rfl, fun j hj => absurd hj (Nat.not_lt_zero _), fun j hj => absurd hj (Nat.not_lt_zero _), fun j hj => absurd hj (Nat.not_lt_zero _)⟩, fr.rf.pt (by decide), rfl⟩ rfl

theorem c_find (S : ST) (n : Nat) : EX me_N_find 0 [.ref 0, .int (nI n)] S (fun r u => r = some (.int ((-10) - nI n)) ∧ u = pt S 0 10 (nI n)) := by
  refine EX.of mok_N_find (Nat.le_of_ble_eq_true rfl) ?_
  refine run_ok 6 (c' := (9, [(0, .ref 0), (1, .int (nI n))], [.int ((-10) - (nI n))], (pt S 0 10 (nI n)))) rfl ?_
  exact x_ret (r := some (.int ((-10) - (nI n)))) rfl rfl trivial ⟨rfl, rfl⟩ rfl


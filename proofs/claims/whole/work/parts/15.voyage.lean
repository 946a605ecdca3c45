/-! the voyage of the class: settle, launch, sink, bear, one event's week -/
set_option maxHeartbeats 2000000 in
theorem c_isEv5 (S : ST) (T : TD) (e w : Nat) (hT : TR 5 T S) (hto : tok T) (he : e < tne T) (hw : w < 24) : EX me_T_isEventOf 0 [.ref 5, .int (nI e), .int (nI w)] S (fun r u => r = some (.int (b2 (tew T e = w ∧ (tlo T).testBit e = false))) ∧ u = S) := by
  refine EX.of mok_T_isEventOf (Nat.le_of_ble_eq_true rfl) ?_
  obtain ⟨n8, n9, hbt, het, hht, hlo⟩ := id hto
  obtain ⟨t1, t2, t3, t4, t5, t6, t7, t8, t9, t10, t11⟩ := id hT
  have q1 := (het e he).2.1
  refine run_ok 3 (c' := (5, [(0, .ref 5), (1, .int (nI e)), (2, .int (nI w))], [.int (nI e), .ref 12], S)) rfl ?_
  refine x_iaN (nI (tew T e)) rfl rfl (by decide) (by omega) (t7 e (by omega)) ?_
  refine run_ok 1 (c' := (7, [(0, .ref 5), (1, .int (nI e)), (2, .int (nI w))], [.int (nI w), .int (nI (tew T e))], S)) rfl ?_
  refine x_icmpN_ne 25 rfl rfl (by omega) (by omega) (fun h7 => ?_) (fun h7 => ?_)
  · refine run_ok 1 (c' := (26, [(0, .ref 5), (1, .int (nI e)), (2, .int (nI w))], [.int (nI 0)], S)) rfl ?_
    exact x_ret (r := some (.int (nI 0))) rfl rfl (Or.inl rfl) ⟨congrArg (fun z => some (Value.int z)) (b2_f (fun z => by first | exact h7 z.1 | exact absurd h18 (by rw [z.2]; decide))).symm, rfl⟩ rfl
  · refine run_ok 2 (c' := (14, [(0, .ref 5), (1, .int (nI e)), (2, .int (nI w))], [.int (S.1 5 11)], S)) rfl ?_
    refine x_top (v' := nI (tlo T)) t11 ?_
    refine run_ok 4 (c' := (18, [(0, .ref 5), (1, .int (nI e)), (2, .int (nI w))], [.int (((nI (tlo T)) >>> ((nI e) &&& 31)) &&& (nI 1))], S)) rfl ?_
    refine x_top (v' := b2 ((tlo T).testBit e = true)) (by rw [bit_t (by omega) (by omega)]; unfold b2; split <;> rfl) ?_
    refine x_ifB_ne 25 rfl rfl (fun h18 => ?_) (fun h18 => ?_)
    · refine run_ok 1 (c' := (26, [(0, .ref 5), (1, .int (nI e)), (2, .int (nI w))], [.int (nI 0)], S)) rfl ?_
      exact x_ret (r := some (.int (nI 0))) rfl rfl (Or.inl rfl) ⟨congrArg (fun z => some (Value.int z)) (b2_f (fun z => by first | exact h7 z.1 | exact absurd h18 (by rw [z.2]; decide))).symm, rfl⟩ rfl
    · refine run_ok 2 (c' := (26, [(0, .ref 5), (1, .int (nI e)), (2, .int (nI w))], [.int (nI 1)], S)) rfl ?_
      exact x_ret (r := some (.int (nI 1))) rfl rfl (Or.inr rfl) ⟨congrArg (fun z => some (Value.int z)) (b2_t ⟨by omega, by simpa using h18⟩).symm, rfl⟩ rfl

set_option maxHeartbeats 2000000 in
theorem c_isEv14 (S : ST) (T : TD) (e w : Nat) (hT : TR 14 T S) (hto : tok T) (he : e < tne T) (hw : w < 24) : EX me_T_isEventOf 0 [.ref 14, .int (nI e), .int (nI w)] S (fun r u => r = some (.int (b2 (tew T e = w ∧ (tlo T).testBit e = false))) ∧ u = S) := by
  refine EX.of mok_T_isEventOf (Nat.le_of_ble_eq_true rfl) ?_
  obtain ⟨n8, n9, hbt, het, hht, hlo⟩ := id hto
  obtain ⟨t1, t2, t3, t4, t5, t6, t7, t8, t9, t10, t11⟩ := id hT
  have q1 := (het e he).2.1
  refine run_ok 3 (c' := (5, [(0, .ref 14), (1, .int (nI e)), (2, .int (nI w))], [.int (nI e), .ref 21], S)) rfl ?_
  refine x_iaN (nI (tew T e)) rfl rfl (by decide) (by omega) (t7 e (by omega)) ?_
  refine run_ok 1 (c' := (7, [(0, .ref 14), (1, .int (nI e)), (2, .int (nI w))], [.int (nI w), .int (nI (tew T e))], S)) rfl ?_
  refine x_icmpN_ne 25 rfl rfl (by omega) (by omega) (fun h7 => ?_) (fun h7 => ?_)
  · refine run_ok 1 (c' := (26, [(0, .ref 14), (1, .int (nI e)), (2, .int (nI w))], [.int (nI 0)], S)) rfl ?_
    exact x_ret (r := some (.int (nI 0))) rfl rfl (Or.inl rfl) ⟨congrArg (fun z => some (Value.int z)) (b2_f (fun z => by first | exact h7 z.1 | exact absurd h18 (by rw [z.2]; decide))).symm, rfl⟩ rfl
  · refine run_ok 2 (c' := (14, [(0, .ref 14), (1, .int (nI e)), (2, .int (nI w))], [.int (S.1 14 11)], S)) rfl ?_
    refine x_top (v' := nI (tlo T)) t11 ?_
    refine run_ok 4 (c' := (18, [(0, .ref 14), (1, .int (nI e)), (2, .int (nI w))], [.int (((nI (tlo T)) >>> ((nI e) &&& 31)) &&& (nI 1))], S)) rfl ?_
    refine x_top (v' := b2 ((tlo T).testBit e = true)) (by rw [bit_t (by omega) (by omega)]; unfold b2; split <;> rfl) ?_
    refine x_ifB_ne 25 rfl rfl (fun h18 => ?_) (fun h18 => ?_)
    · refine run_ok 1 (c' := (26, [(0, .ref 14), (1, .int (nI e)), (2, .int (nI w))], [.int (nI 0)], S)) rfl ?_
      exact x_ret (r := some (.int (nI 0))) rfl rfl (Or.inl rfl) ⟨congrArg (fun z => some (Value.int z)) (b2_f (fun z => by first | exact h7 z.1 | exact absurd h18 (by rw [z.2]; decide))).symm, rfl⟩ rfl
    · refine run_ok 2 (c' := (26, [(0, .ref 14), (1, .int (nI e)), (2, .int (nI w))], [.int (nI 1)], S)) rfl ?_
      exact x_ret (r := some (.int (nI 1))) rfl rfl (Or.inr rfl) ⟨congrArg (fun z => some (Value.int z)) (b2_t ⟨by omega, by simpa using h18⟩).symm, rfl⟩ rfl

set_option maxHeartbeats 2000000 in
theorem c_settle5 (S : ST) (T : TD) (V : VS) (ls : Nat → Nat) (kd k : Nat) (hT : TR 5 T S) (hto : tok T) (hC : CR 5 T V ls S) (hV : vk T V) (hk : k < 8) (hkd : kd < 3) : EX me_V_settle 1 [.ref 23, .int (nI kd), .int (nI k)] S (fun r u => r = none ∧ CR 5 T (if vis V k = 1 then (if kd = 1 then shr T V k else mku T V k) else V) ls u ∧ fr VL S u ∧ u.2 = S.2) := by
  refine EX.of mok_V_settle (Nat.le_of_ble_eq_true rfl) ?_
  obtain ⟨n8, n9, hbt, het, hht, hlo⟩ := id hto
  obtain ⟨t1, t2, t3, t4, t5, t6, t7, t8, t9, t10, t11⟩ := id hT
  obtain ⟨h24, h25, h26, h27, h28, h29, hsr, g9, g10, g11, htl⟩ := id hC
  obtain ⟨hh9, hv3, hb9, hfw, hfb⟩ := id hV
  have q0 := (hv3 k hk).1
  refine run_ok 3 (c' := (5, [(0, .ref 23), (1, .int (nI kd)), (2, .int (nI k))], [.int (nI k), .ref 25], S)) rfl ?_
  refine x_iaN (nI (vis V k)) rfl rfl (by decide) (by omega) (h25 k (by omega)) ?_
  refine run_ok 1 (c' := (7, [(0, .ref 23), (1, .int (nI kd)), (2, .int (nI k))], [.int (nI 1), .int (nI (vis V k))], S)) rfl ?_
  refine x_icmpN_eq 11 rfl rfl (by omega) (by omega) (fun h7 => ?_) (fun h7 => ?_)
  · have q1 := (hv3 k hk).2.2 h7
    have q2 := (hbt k q1.1).2.1
    have q3 := hh9 (8 * vnm V k + tbu T k) (by omega)
    obtain ⟨e30, e31⟩ := hsr k hk h7
    refine run_ok 3 (c' := (16, [(0, .ref 23), (1, .int (nI kd)), (2, .int (nI k))], [.int (nI k), .ref 30], S)) rfl ?_
    refine x_iaN (nI (8 * vnm V k + tbu T k)) rfl rfl (by decide) (by omega) e30 ?_
    refine run_ok 3 (c' := (20, [(0, .ref 23), (1, .int (nI kd)), (2, .int (nI k)), (3, .int (nI (8 * vnm V k + tbu T k)))], [.int (nI 1), .int (nI kd)], S)) rfl ?_
    refine x_icmpN_ne 51 rfl rfl (by omega) (by omega) (fun h20 => ?_) (fun h20 => ?_)
    · refine run_ok 4 (c' := (57, [(0, .ref 23), (1, .int (nI kd)), (2, .int (nI k)), (3, .int (nI (8 * vnm V k + tbu T k)))], [.int (nI 0), .int (nI (8 * vnm V k + tbu T k)), .ref 24], S)) rfl ?_
      refine x_isN rfl rfl (by decide) (by omega) ?_
      refine run_ok 5 (c' := (67, [(0, .ref 23), (1, .int (nI kd)), (2, .int (nI k)), (3, .int (nI (8 * vnm V k + tbu T k)))], [.int (nI k), .ref 31, .ref 24], (pt S 24 (8 * vnm V k + tbu T k) (nI 0)))) rfl ?_
      refine x_iaN (nI (8 * tbu T k + vnm V k)) rfl rfl (by decide) (by omega) e31 ?_
      refine run_ok 1 (c' := (69, [(0, .ref 23), (1, .int (nI kd)), (2, .int (nI k)), (3, .int (nI (8 * vnm V k + tbu T k)))], [.int (nI 0), .int (nI (8 * tbu T k + vnm V k)), .ref 24], (pt S 24 (8 * vnm V k + tbu T k) (nI 0)))) rfl ?_
      refine x_isN rfl rfl (by decide) (by omega) ?_
      exact x_ret (r := none) rfl rfl trivial ⟨rfl, by rw [if_pos h7, if_neg h20]; exact ⟨h24.put.put, h25, h26, h27, h28, h29, hsr, g9, g10, g11, htl⟩, (fr.rf.pt (by decide)).pt (by decide), rfl⟩ rfl
    · refine run_ok 4 (c' := (29, [(0, .ref 23), (1, .int (nI kd)), (2, .int (nI k)), (3, .int (nI (8 * vnm V k + tbu T k)))], [.int (nI 0), .int (nI k), .ref 27], S)) rfl ?_
      refine x_isN rfl rfl (by decide) (by omega) ?_
      refine run_ok 7 (c' := (41, [(0, .ref 23), (1, .int (nI kd)), (2, .int (nI k)), (3, .int (nI (8 * vnm V k + tbu T k)))], [.int (nI (8 * vnm V k + tbu T k)), .ref 24, .int (nI 0), .int (nI (8 * vnm V k + tbu T k)), .ref 24], (pt S 27 k (nI 0)))) rfl ?_
      refine x_iaN (nI (vh V (8 * vnm V k + tbu T k))) rfl rfl (by decide) (by omega) (h24 (8 * vnm V k + tbu T k) (by omega)) ?_
      refine run_ok 2 (c' := (44, [(0, .ref 23), (1, .int (nI kd)), (2, .int (nI k)), (3, .int (nI (8 * vnm V k + tbu T k)))], [.int ((nI (vh V (8 * vnm V k + tbu T k))) - (nI 1)), .int (nI 0), .int (nI (8 * vnm V k + tbu T k)), .ref 24], (pt S 27 k (nI 0)))) rfl ?_
      refine x_mmax rfl lk_5_109 wm_max.1 wm_max.2.1 wm_max.2.2 (Nat.le_of_ble_eq_true rfl) (by decide) ?_
      refine x_top (v' := nI (vh V (8 * vnm V k + tbu T k) - 1)) (max0 (by omega) (by decide)) ?_
      refine x_isN rfl rfl (by decide) (by omega) ?_
      refine run_ok 1 (c' := (70, [(0, .ref 23), (1, .int (nI kd)), (2, .int (nI k)), (3, .int (nI (8 * vnm V k + tbu T k)))], [], (pt (pt S 27 k (nI 0)) 24 (8 * vnm V k + tbu T k) (nI (vh V (8 * vnm V k + tbu T k) - 1))))) rfl ?_
      exact x_ret (r := none) rfl rfl trivial ⟨rfl, by rw [if_pos h7, if_pos h20]; exact ⟨(h24.ne (by decide)).put, h25, h26, (h27.put).ne (by decide), h28, h29, hsr, g9, g10, g11, htl⟩, (fr.rf.pt (by decide)).pt (by decide), rfl⟩ rfl
  · exact x_ret (r := none) rfl rfl trivial ⟨rfl, by rw [if_neg h7]; exact hC, fr.rf, rfl⟩ rfl

set_option maxHeartbeats 2000000 in
theorem c_settle14 (S : ST) (T : TD) (V : VS) (ls : Nat → Nat) (kd k : Nat) (hT : TR 14 T S) (hto : tok T) (hC : CR 14 T V ls S) (hV : vk T V) (hk : k < 8) (hkd : kd < 3) : EX me_V_settle 1 [.ref 23, .int (nI kd), .int (nI k)] S (fun r u => r = none ∧ CR 14 T (if vis V k = 1 then (if kd = 1 then shr T V k else mku T V k) else V) ls u ∧ fr VL S u ∧ u.2 = S.2) := by
  refine EX.of mok_V_settle (Nat.le_of_ble_eq_true rfl) ?_
  obtain ⟨n8, n9, hbt, het, hht, hlo⟩ := id hto
  obtain ⟨t1, t2, t3, t4, t5, t6, t7, t8, t9, t10, t11⟩ := id hT
  obtain ⟨h24, h25, h26, h27, h28, h29, hsr, g9, g10, g11, htl⟩ := id hC
  obtain ⟨hh9, hv3, hb9, hfw, hfb⟩ := id hV
  have q0 := (hv3 k hk).1
  refine run_ok 3 (c' := (5, [(0, .ref 23), (1, .int (nI kd)), (2, .int (nI k))], [.int (nI k), .ref 25], S)) rfl ?_
  refine x_iaN (nI (vis V k)) rfl rfl (by decide) (by omega) (h25 k (by omega)) ?_
  refine run_ok 1 (c' := (7, [(0, .ref 23), (1, .int (nI kd)), (2, .int (nI k))], [.int (nI 1), .int (nI (vis V k))], S)) rfl ?_
  refine x_icmpN_eq 11 rfl rfl (by omega) (by omega) (fun h7 => ?_) (fun h7 => ?_)
  · have q1 := (hv3 k hk).2.2 h7
    have q2 := (hbt k q1.1).2.1
    have q3 := hh9 (8 * vnm V k + tbu T k) (by omega)
    obtain ⟨e30, e31⟩ := hsr k hk h7
    refine run_ok 3 (c' := (16, [(0, .ref 23), (1, .int (nI kd)), (2, .int (nI k))], [.int (nI k), .ref 30], S)) rfl ?_
    refine x_iaN (nI (8 * vnm V k + tbu T k)) rfl rfl (by decide) (by omega) e30 ?_
    refine run_ok 3 (c' := (20, [(0, .ref 23), (1, .int (nI kd)), (2, .int (nI k)), (3, .int (nI (8 * vnm V k + tbu T k)))], [.int (nI 1), .int (nI kd)], S)) rfl ?_
    refine x_icmpN_ne 51 rfl rfl (by omega) (by omega) (fun h20 => ?_) (fun h20 => ?_)
    · refine run_ok 4 (c' := (57, [(0, .ref 23), (1, .int (nI kd)), (2, .int (nI k)), (3, .int (nI (8 * vnm V k + tbu T k)))], [.int (nI 0), .int (nI (8 * vnm V k + tbu T k)), .ref 24], S)) rfl ?_
      refine x_isN rfl rfl (by decide) (by omega) ?_
      refine run_ok 5 (c' := (67, [(0, .ref 23), (1, .int (nI kd)), (2, .int (nI k)), (3, .int (nI (8 * vnm V k + tbu T k)))], [.int (nI k), .ref 31, .ref 24], (pt S 24 (8 * vnm V k + tbu T k) (nI 0)))) rfl ?_
      refine x_iaN (nI (8 * tbu T k + vnm V k)) rfl rfl (by decide) (by omega) e31 ?_
      refine run_ok 1 (c' := (69, [(0, .ref 23), (1, .int (nI kd)), (2, .int (nI k)), (3, .int (nI (8 * vnm V k + tbu T k)))], [.int (nI 0), .int (nI (8 * tbu T k + vnm V k)), .ref 24], (pt S 24 (8 * vnm V k + tbu T k) (nI 0)))) rfl ?_
      refine x_isN rfl rfl (by decide) (by omega) ?_
      exact x_ret (r := none) rfl rfl trivial ⟨rfl, by rw [if_pos h7, if_neg h20]; exact ⟨h24.put.put, h25, h26, h27, h28, h29, hsr, g9, g10, g11, htl⟩, (fr.rf.pt (by decide)).pt (by decide), rfl⟩ rfl
    · refine run_ok 4 (c' := (29, [(0, .ref 23), (1, .int (nI kd)), (2, .int (nI k)), (3, .int (nI (8 * vnm V k + tbu T k)))], [.int (nI 0), .int (nI k), .ref 27], S)) rfl ?_
      refine x_isN rfl rfl (by decide) (by omega) ?_
      refine run_ok 7 (c' := (41, [(0, .ref 23), (1, .int (nI kd)), (2, .int (nI k)), (3, .int (nI (8 * vnm V k + tbu T k)))], [.int (nI (8 * vnm V k + tbu T k)), .ref 24, .int (nI 0), .int (nI (8 * vnm V k + tbu T k)), .ref 24], (pt S 27 k (nI 0)))) rfl ?_
      refine x_iaN (nI (vh V (8 * vnm V k + tbu T k))) rfl rfl (by decide) (by omega) (h24 (8 * vnm V k + tbu T k) (by omega)) ?_
      refine run_ok 2 (c' := (44, [(0, .ref 23), (1, .int (nI kd)), (2, .int (nI k)), (3, .int (nI (8 * vnm V k + tbu T k)))], [.int ((nI (vh V (8 * vnm V k + tbu T k))) - (nI 1)), .int (nI 0), .int (nI (8 * vnm V k + tbu T k)), .ref 24], (pt S 27 k (nI 0)))) rfl ?_
      refine x_mmax rfl lk_5_109 wm_max.1 wm_max.2.1 wm_max.2.2 (Nat.le_of_ble_eq_true rfl) (by decide) ?_
      refine x_top (v' := nI (vh V (8 * vnm V k + tbu T k) - 1)) (max0 (by omega) (by decide)) ?_
      refine x_isN rfl rfl (by decide) (by omega) ?_
      refine run_ok 1 (c' := (70, [(0, .ref 23), (1, .int (nI kd)), (2, .int (nI k)), (3, .int (nI (8 * vnm V k + tbu T k)))], [], (pt (pt S 27 k (nI 0)) 24 (8 * vnm V k + tbu T k) (nI (vh V (8 * vnm V k + tbu T k) - 1))))) rfl ?_
      exact x_ret (r := none) rfl rfl trivial ⟨rfl, by rw [if_pos h7, if_pos h20]; exact ⟨(h24.ne (by decide)).put, h25, h26, (h27.put).ne (by decide), h28, h29, hsr, g9, g10, g11, htl⟩, (fr.rf.pt (by decide)).pt (by decide), rfl⟩ rfl
  · exact x_ret (r := none) rfl rfl trivial ⟨rfl, by rw [if_neg h7]; exact hC, fr.rf, rfl⟩ rfl

set_option maxHeartbeats 2000000 in
theorem c_launch5 (S : ST) (T : TD) (V : VS) (ls : Nat → Nat) (k : Nat) (hT : TR 5 T S) (hto : tok T) (hC : CR 5 T V ls S) (hV : vk T V) (hk : k < tnb T) (h0 : vis V k = 0) (hnm : vnm V k = 8) : EX me_V_launch 1 [.ref 23, .int (nI k)] S (fun r u => r = none ∧ CR 5 T (lau T V k) ls u ∧ fr VL S u ∧ u.2 = S.2) := by
  refine EX.of mok_V_launch (Nat.le_of_ble_eq_true rfl) ?_
  obtain ⟨n8, n9, hbt, het, hht, hlo⟩ := id hto
  obtain ⟨t1, t2, t3, t4, t5, t6, t7, t8, t9, t10, t11⟩ := id hT
  obtain ⟨h24, h25, h26, h27, h28, h29, hsr, g9, g10, g11, htl⟩ := id hC
  obtain ⟨hh9, hv3, hb9, hfw, hfb⟩ := id hV
  have q2 := (hbt k hk).2.1
  have hw8 := (wst_le (vh V) (tbu T k) hh9 q2 8 (by omega)).1
  refine run_ok 1 (c' := (1, [(0, .ref 23), (1, .int (nI k))], [.ref 23], S)) rfl ?_
  refine x_gett (t := 5) rfl rfl htl ?_
  refine run_ok 2 (c' := (8, [(0, .ref 23), (1, .int (nI k))], [.int (nI k), .ref 8], S)) rfl ?_
  refine x_iaN (nI (tbu T k)) rfl rfl (by decide) (by omega) (t3 k (by omega)) ?_
  refine run_ok 3 (c' := (12, [(0, .ref 23), (1, .int (nI k)), (2, .int (nI (tbu T k)))], [.int (nI (tbu T k)), .ref 23], S)) rfl ?_
  refine x_callV [.int (nI (tbu T k))] rfl cv_V_worstEnemy.1 lk_5_118 cv_V_worstEnemy.2.1 cv_V_worstEnemy.2.2.1 rfl cv_V_worstEnemy.2.2.2.1 rfl rfl (Nat.le_of_ble_eq_true rfl) (by decide) cv_V_worstEnemy.2.2.2.2 (c_worst S (vh V) (tbu T k) (by omega) h24 hh9) ?_
  rintro r u ⟨hr, hu⟩
  rw [hr, hu]
  clear hr hu r u
  refine run_ok 3 (c' := (18, [(0, .ref 23), (1, .int (nI k)), (2, .int (nI (tbu T k))), (3, .int (nmv (wst (vh V) (tbu T k) 8).1))], [.int (-1), .int (nmv (wst (vh V) (tbu T k) 8).1)], S)) rfl ?_
  refine x_icmp_ne 41 rfl rfl (fun h18 => ?_) (fun h18 => ?_)
  · have he8 : (wst (vh V) (tbu T k) 8).1 < 8 := Nat.lt_of_le_of_ne hw8 (fun z => h18 ((nmv_n1 hw8).mpr z))
    rw [nmv_lt he8]
    refine run_ok 4 (c' := (47, [(0, .ref 23), (1, .int (nI k)), (2, .int (nI (tbu T k))), (3, .int (nI ((wst (vh V) (tbu T k) 8).1)))], [.int (nI 1), .int (nI k), .ref 25], S)) rfl ?_
    refine x_isN rfl rfl (by decide) (by omega) ?_
    refine run_ok 4 (c' := (54, [(0, .ref 23), (1, .int (nI k)), (2, .int (nI (tbu T k))), (3, .int (nI ((wst (vh V) (tbu T k) 8).1)))], [.int (nI ((wst (vh V) (tbu T k) 8).1)), .int (nI k), .ref 26], (pt S 25 k (nI 1)))) rfl ?_
    refine x_isN rfl rfl (by decide) (by omega) ?_
    refine run_ok 5 (c' := (62, [(0, .ref 23), (1, .int (nI k)), (2, .int (nI (tbu T k))), (3, .int (nI ((wst (vh V) (tbu T k) 8).1)))], [.int (nI (tbu T k)), .int (nI ((wst (vh V) (tbu T k) 8).1)), .int (nI k), .ref 30], (pt (pt S 25 k (nI 1)) 26 k (nI ((wst (vh V) (tbu T k) 8).1))))) rfl ?_
    refine x_callN [.int (nI ((wst (vh V) (tbu T k) 8).1)), .int (nI (tbu T k))] rfl cs_N_pair.1 (fun U hU => hU.2.1) cs_N_pair.2.1 rfl rfl (Nat.le_of_ble_eq_true rfl) (by decide) cs_N_pair.2.2 (c_pair (pt (pt S 25 k (nI 1)) 26 k (nI ((wst (vh V) (tbu T k) 8).1))) (nI ((wst (vh V) (tbu T k) 8).1)) (nI (tbu T k))) ?_
    rintro r u ⟨hr, hu⟩
    rw [hr, hu]
    clear hr hu r u
    refine x_top (v' := nI (((wst (vh V) (tbu T k) 8).1) * 8 + (tbu T k))) (by rw [pk_mul, nI_add]) ?_
    refine x_isN rfl rfl (by decide) (by omega) ?_
    refine run_ok 5 (c' := (73, [(0, .ref 23), (1, .int (nI k)), (2, .int (nI (tbu T k))), (3, .int (nI ((wst (vh V) (tbu T k) 8).1)))], [.int (nI ((wst (vh V) (tbu T k) 8).1)), .int (nI (tbu T k)), .int (nI k), .ref 31], (pt (pt (pt S 25 k (nI 1)) 26 k (nI ((wst (vh V) (tbu T k) 8).1))) 30 k (nI (((wst (vh V) (tbu T k) 8).1) * 8 + (tbu T k)))))) rfl ?_
    refine x_callN [.int (nI (tbu T k)), .int (nI ((wst (vh V) (tbu T k) 8).1))] rfl cs_N_pair.1 (fun U hU => hU.2.1) cs_N_pair.2.1 rfl rfl (Nat.le_of_ble_eq_true rfl) (by decide) cs_N_pair.2.2 (c_pair (pt (pt (pt S 25 k (nI 1)) 26 k (nI ((wst (vh V) (tbu T k) 8).1))) 30 k (nI (((wst (vh V) (tbu T k) 8).1) * 8 + (tbu T k)))) (nI (tbu T k)) (nI ((wst (vh V) (tbu T k) 8).1))) ?_
    rintro r u ⟨hr, hu⟩
    rw [hr, hu]
    clear hr hu r u
    refine x_top (v' := nI ((tbu T k) * 8 + ((wst (vh V) (tbu T k) 8).1))) (by rw [pk_mul, nI_add]) ?_
    refine x_isN rfl rfl (by decide) (by omega) ?_
    refine x_ret (r := none) rfl rfl trivial ?_ rfl
    have ei : (if (wst (vh V) (tbu T k) 8).1 = 8 then 3 else 1) = 1 := if_neg (by omega)
    have el : lft T V = lft T (lau T V k) := lft_eq (fun j hj => by
      show upn (vis V) k _ j ≤ 1 ↔ _
      by_cases e : j = k
      · rw [e, upn_s, ei]; omega
      · rw [upn_n e])
    refine ⟨rfl, ⟨h24, ?_, ?_, h27, h28, h29, ?_, by rw [← el]; exact g9, g10, g11, htl⟩, ((((fr.rf.pt (by decide)).pt (by decide)).pt (by decide)).pt (by decide)), rfl⟩
    · exact ((((h25.putv (by rw [ei])).ne (by decide)).ne (by decide)).ne (by decide))
    · intro j hj
      show upd (S.1 26) k _ j = nmv (upn (vnm V) k _ j)
      by_cases e : j = k
      · rw [e, upn_s, upd_s, nmv_lt he8]
      · rw [upn_n e, upd_n e]; exact h26 j hj
    · intro j hj h1
      show upd (S.1 30) k _ j = nI (8 * upn (vnm V) k _ j + tbu T j) ∧ upd (S.1 31) k _ j = nI (8 * tbu T j + upn (vnm V) k _ j)
      by_cases e : j = k
      · rw [e, upn_s, upd_s, upd_s]
        exact ⟨by rw [Nat.mul_comm], by rw [Nat.mul_comm]⟩
      · have h2 : upn (vis V) k (if (wst (vh V) (tbu T k) 8).1 = 8 then 3 else 1) j = 1 := h1
        rw [upn_n e] at h2
        rw [upn_n e, upd_n e, upd_n e]
        exact hsr j hj h2
  · refine run_ok 4 (c' := (27, [(0, .ref 23), (1, .int (nI k)), (2, .int (nI (tbu T k))), (3, .int (nmv (wst (vh V) (tbu T k) 8).1))], [.int (nI 3), .int (nI k), .ref 25], S)) rfl ?_
    refine x_isN rfl rfl (by decide) (by omega) ?_
    refine run_ok 3 (c' := (33, [(0, .ref 23), (1, .int (nI k)), (2, .int (nI (tbu T k))), (3, .int (nmv (wst (vh V) (tbu T k) 8).1))], [.int (S.1 23 9), .ref 23], (pt S 25 k (nI 3)))) rfl ?_
    refine x_top (v' := nI (lft T V)) g9 ?_
    refine run_ok 4 (c' := (77, [(0, .ref 23), (1, .int (nI k)), (2, .int (nI (tbu T k))), (3, .int (nmv (wst (vh V) (tbu T k) 8).1))], [], (pt (pt S 25 k (nI 3)) 23 9 ((nI (lft T V)) - (nI 1))))) rfl ?_
    refine x_ret (r := none) rfl rfl trivial ?_ rfl
    have e8 := (nmv_n1 hw8).mp h18
    have el := lft_dn (T := T) (V := V) (V' := lau T V k) hk (by omega) (by show 1 < upn (vis V) k _ k; rw [upn_s, if_pos e8]; decide) (fun j hj => upn_n hj)
    have ei : (if (wst (vh V) (tbu T k) 8).1 = 8 then 3 else 1) = 3 := if_pos e8
    refine ⟨rfl, ⟨h24, ?_, ?_, h27, h28, h29, ?_, ?_, g10, g11, htl⟩, ((fr.rf.pt (by decide)).pt (by decide)), rfl⟩
    · exact (h25.putv (by rw [ei])).ne (by decide)
    · intro j hj
      show S.1 26 j = nmv (upn (vnm V) k _ j)
      by_cases e : j = k
      · rw [e, upn_s, h26 k (by omega), hnm, e8]
      · rw [upn_n e]; exact h26 j hj
    · intro j hj h1
      have hjk : j ≠ k := fun e => by rw [e] at h1; have h2 : upn (vis V) k (if (wst (vh V) (tbu T k) 8).1 = 8 then 3 else 1) k = 1 := h1; rw [upn_s, ei] at h2; cases h2
      have h2 : upn (vis V) k (if (wst (vh V) (tbu T k) 8).1 = 8 then 3 else 1) j = 1 := h1
      rw [upn_n hjk] at h2
      have h3 := hsr j hj h2
      show S.1 30 j = nI (8 * upn (vnm V) k _ j + tbu T j) ∧ S.1 31 j = nI (8 * tbu T j + upn (vnm V) k _ j)
      rw [upn_n hjk]
      exact h3
    · show nI (lft T V) - nI 1 = nI (lft T (lau T V k))
      rw [pk_sub (by omega), el]; rfl

set_option maxHeartbeats 2000000 in
theorem c_launch14 (S : ST) (T : TD) (V : VS) (ls : Nat → Nat) (k : Nat) (hT : TR 14 T S) (hto : tok T) (hC : CR 14 T V ls S) (hV : vk T V) (hk : k < tnb T) (h0 : vis V k = 0) (hnm : vnm V k = 8) : EX me_V_launch 1 [.ref 23, .int (nI k)] S (fun r u => r = none ∧ CR 14 T (lau T V k) ls u ∧ fr VL S u ∧ u.2 = S.2) := by
  refine EX.of mok_V_launch (Nat.le_of_ble_eq_true rfl) ?_
  obtain ⟨n8, n9, hbt, het, hht, hlo⟩ := id hto
  obtain ⟨t1, t2, t3, t4, t5, t6, t7, t8, t9, t10, t11⟩ := id hT
  obtain ⟨h24, h25, h26, h27, h28, h29, hsr, g9, g10, g11, htl⟩ := id hC
  obtain ⟨hh9, hv3, hb9, hfw, hfb⟩ := id hV
  have q2 := (hbt k hk).2.1
  have hw8 := (wst_le (vh V) (tbu T k) hh9 q2 8 (by omega)).1
  refine run_ok 1 (c' := (1, [(0, .ref 23), (1, .int (nI k))], [.ref 23], S)) rfl ?_
  refine x_gett (t := 14) rfl rfl htl ?_
  refine run_ok 2 (c' := (8, [(0, .ref 23), (1, .int (nI k))], [.int (nI k), .ref 17], S)) rfl ?_
  refine x_iaN (nI (tbu T k)) rfl rfl (by decide) (by omega) (t3 k (by omega)) ?_
  refine run_ok 3 (c' := (12, [(0, .ref 23), (1, .int (nI k)), (2, .int (nI (tbu T k)))], [.int (nI (tbu T k)), .ref 23], S)) rfl ?_
  refine x_callV [.int (nI (tbu T k))] rfl cv_V_worstEnemy.1 lk_5_118 cv_V_worstEnemy.2.1 cv_V_worstEnemy.2.2.1 rfl cv_V_worstEnemy.2.2.2.1 rfl rfl (Nat.le_of_ble_eq_true rfl) (by decide) cv_V_worstEnemy.2.2.2.2 (c_worst S (vh V) (tbu T k) (by omega) h24 hh9) ?_
  rintro r u ⟨hr, hu⟩
  rw [hr, hu]
  clear hr hu r u
  refine run_ok 3 (c' := (18, [(0, .ref 23), (1, .int (nI k)), (2, .int (nI (tbu T k))), (3, .int (nmv (wst (vh V) (tbu T k) 8).1))], [.int (-1), .int (nmv (wst (vh V) (tbu T k) 8).1)], S)) rfl ?_
  refine x_icmp_ne 41 rfl rfl (fun h18 => ?_) (fun h18 => ?_)
  · have he8 : (wst (vh V) (tbu T k) 8).1 < 8 := Nat.lt_of_le_of_ne hw8 (fun z => h18 ((nmv_n1 hw8).mpr z))
    rw [nmv_lt he8]
    refine run_ok 4 (c' := (47, [(0, .ref 23), (1, .int (nI k)), (2, .int (nI (tbu T k))), (3, .int (nI ((wst (vh V) (tbu T k) 8).1)))], [.int (nI 1), .int (nI k), .ref 25], S)) rfl ?_
    refine x_isN rfl rfl (by decide) (by omega) ?_
    refine run_ok 4 (c' := (54, [(0, .ref 23), (1, .int (nI k)), (2, .int (nI (tbu T k))), (3, .int (nI ((wst (vh V) (tbu T k) 8).1)))], [.int (nI ((wst (vh V) (tbu T k) 8).1)), .int (nI k), .ref 26], (pt S 25 k (nI 1)))) rfl ?_
    refine x_isN rfl rfl (by decide) (by omega) ?_
    refine run_ok 5 (c' := (62, [(0, .ref 23), (1, .int (nI k)), (2, .int (nI (tbu T k))), (3, .int (nI ((wst (vh V) (tbu T k) 8).1)))], [.int (nI (tbu T k)), .int (nI ((wst (vh V) (tbu T k) 8).1)), .int (nI k), .ref 30], (pt (pt S 25 k (nI 1)) 26 k (nI ((wst (vh V) (tbu T k) 8).1))))) rfl ?_
    refine x_callN [.int (nI ((wst (vh V) (tbu T k) 8).1)), .int (nI (tbu T k))] rfl cs_N_pair.1 (fun U hU => hU.2.1) cs_N_pair.2.1 rfl rfl (Nat.le_of_ble_eq_true rfl) (by decide) cs_N_pair.2.2 (c_pair (pt (pt S 25 k (nI 1)) 26 k (nI ((wst (vh V) (tbu T k) 8).1))) (nI ((wst (vh V) (tbu T k) 8).1)) (nI (tbu T k))) ?_
    rintro r u ⟨hr, hu⟩
    rw [hr, hu]
    clear hr hu r u
    refine x_top (v' := nI (((wst (vh V) (tbu T k) 8).1) * 8 + (tbu T k))) (by rw [pk_mul, nI_add]) ?_
    refine x_isN rfl rfl (by decide) (by omega) ?_
    refine run_ok 5 (c' := (73, [(0, .ref 23), (1, .int (nI k)), (2, .int (nI (tbu T k))), (3, .int (nI ((wst (vh V) (tbu T k) 8).1)))], [.int (nI ((wst (vh V) (tbu T k) 8).1)), .int (nI (tbu T k)), .int (nI k), .ref 31], (pt (pt (pt S 25 k (nI 1)) 26 k (nI ((wst (vh V) (tbu T k) 8).1))) 30 k (nI (((wst (vh V) (tbu T k) 8).1) * 8 + (tbu T k)))))) rfl ?_
    refine x_callN [.int (nI (tbu T k)), .int (nI ((wst (vh V) (tbu T k) 8).1))] rfl cs_N_pair.1 (fun U hU => hU.2.1) cs_N_pair.2.1 rfl rfl (Nat.le_of_ble_eq_true rfl) (by decide) cs_N_pair.2.2 (c_pair (pt (pt (pt S 25 k (nI 1)) 26 k (nI ((wst (vh V) (tbu T k) 8).1))) 30 k (nI (((wst (vh V) (tbu T k) 8).1) * 8 + (tbu T k)))) (nI (tbu T k)) (nI ((wst (vh V) (tbu T k) 8).1))) ?_
    rintro r u ⟨hr, hu⟩
    rw [hr, hu]
    clear hr hu r u
    refine x_top (v' := nI ((tbu T k) * 8 + ((wst (vh V) (tbu T k) 8).1))) (by rw [pk_mul, nI_add]) ?_
    refine x_isN rfl rfl (by decide) (by omega) ?_
    refine x_ret (r := none) rfl rfl trivial ?_ rfl
    have ei : (if (wst (vh V) (tbu T k) 8).1 = 8 then 3 else 1) = 1 := if_neg (by omega)
    have el : lft T V = lft T (lau T V k) := lft_eq (fun j hj => by
      show upn (vis V) k _ j ≤ 1 ↔ _
      by_cases e : j = k
      · rw [e, upn_s, ei]; omega
      · rw [upn_n e])
    refine ⟨rfl, ⟨h24, ?_, ?_, h27, h28, h29, ?_, by rw [← el]; exact g9, g10, g11, htl⟩, ((((fr.rf.pt (by decide)).pt (by decide)).pt (by decide)).pt (by decide)), rfl⟩
    · exact ((((h25.putv (by rw [ei])).ne (by decide)).ne (by decide)).ne (by decide))
    · intro j hj
      show upd (S.1 26) k _ j = nmv (upn (vnm V) k _ j)
      by_cases e : j = k
      · rw [e, upn_s, upd_s, nmv_lt he8]
      · rw [upn_n e, upd_n e]; exact h26 j hj
    · intro j hj h1
      show upd (S.1 30) k _ j = nI (8 * upn (vnm V) k _ j + tbu T j) ∧ upd (S.1 31) k _ j = nI (8 * tbu T j + upn (vnm V) k _ j)
      by_cases e : j = k
      · rw [e, upn_s, upd_s, upd_s]
        exact ⟨by rw [Nat.mul_comm], by rw [Nat.mul_comm]⟩
      · have h2 : upn (vis V) k (if (wst (vh V) (tbu T k) 8).1 = 8 then 3 else 1) j = 1 := h1
        rw [upn_n e] at h2
        rw [upn_n e, upd_n e, upd_n e]
        exact hsr j hj h2
  · refine run_ok 4 (c' := (27, [(0, .ref 23), (1, .int (nI k)), (2, .int (nI (tbu T k))), (3, .int (nmv (wst (vh V) (tbu T k) 8).1))], [.int (nI 3), .int (nI k), .ref 25], S)) rfl ?_
    refine x_isN rfl rfl (by decide) (by omega) ?_
    refine run_ok 3 (c' := (33, [(0, .ref 23), (1, .int (nI k)), (2, .int (nI (tbu T k))), (3, .int (nmv (wst (vh V) (tbu T k) 8).1))], [.int (S.1 23 9), .ref 23], (pt S 25 k (nI 3)))) rfl ?_
    refine x_top (v' := nI (lft T V)) g9 ?_
    refine run_ok 4 (c' := (77, [(0, .ref 23), (1, .int (nI k)), (2, .int (nI (tbu T k))), (3, .int (nmv (wst (vh V) (tbu T k) 8).1))], [], (pt (pt S 25 k (nI 3)) 23 9 ((nI (lft T V)) - (nI 1))))) rfl ?_
    refine x_ret (r := none) rfl rfl trivial ?_ rfl
    have e8 := (nmv_n1 hw8).mp h18
    have el := lft_dn (T := T) (V := V) (V' := lau T V k) hk (by omega) (by show 1 < upn (vis V) k _ k; rw [upn_s, if_pos e8]; decide) (fun j hj => upn_n hj)
    have ei : (if (wst (vh V) (tbu T k) 8).1 = 8 then 3 else 1) = 3 := if_pos e8
    refine ⟨rfl, ⟨h24, ?_, ?_, h27, h28, h29, ?_, ?_, g10, g11, htl⟩, ((fr.rf.pt (by decide)).pt (by decide)), rfl⟩
    · exact (h25.putv (by rw [ei])).ne (by decide)
    · intro j hj
      show S.1 26 j = nmv (upn (vnm V) k _ j)
      by_cases e : j = k
      · rw [e, upn_s, h26 k (by omega), hnm, e8]
      · rw [upn_n e]; exact h26 j hj
    · intro j hj h1
      have hjk : j ≠ k := fun e => by rw [e] at h1; have h2 : upn (vis V) k (if (wst (vh V) (tbu T k) 8).1 = 8 then 3 else 1) k = 1 := h1; rw [upn_s, ei] at h2; cases h2
      have h2 : upn (vis V) k (if (wst (vh V) (tbu T k) 8).1 = 8 then 3 else 1) j = 1 := h1
      rw [upn_n hjk] at h2
      have h3 := hsr j hj h2
      show S.1 30 j = nI (8 * upn (vnm V) k _ j + tbu T j) ∧ S.1 31 j = nI (8 * tbu T j + upn (vnm V) k _ j)
      rw [upn_n hjk]
      exact h3
    · show nI (lft T V) - nI 1 = nI (lft T (lau T V k))
      rw [pk_sub (by omega), el]; rfl

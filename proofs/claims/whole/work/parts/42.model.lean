/-! the model: what befalls, a week goes by -/
theorem MV_stm {T : TD} {V : VS} {u v : ST} (h : MV T V u) (h67 : rh v 67 (tnb T) (vho (stm T V))) (hf : fr [67] u v) : MV T (stm T V) v := by
  obtain ⟨m1, m2, m3, m4, m5, m6, m7⟩ := h
  exact ⟨m1.keep hf (by decide), m2.keep hf (by decide), fun k hk => by rw [hf 65 (by decide)]; exact m3 k hk, m4.keep hf (by decide), h67, by rw [hf 48 (by decide)]; exact m6, by rw [hf 48 (by decide)]; exact m7⟩
set_option maxHeartbeats 2000000 in
theorem m_befalls0 (S : ST) (T : TD) (V : VS) (e : Nat) (hT : MT T S) (hto : tok T) (hM : MV T V S) (hV : vk T V) (he : e < tne T) (hkd : tek T e = 0) : EX me_R_befalls 1 [.ref 48, .int (nI e)] S (fun r u => r = none ∧ MV T (evt T V e) u ∧ fr [63, 66, 67] S u ∧ u.2 = S.2) := by
  refine EX.of mok_R_befalls (Nat.le_of_ble_eq_true rfl) ?_
  obtain ⟨n8, n9, hbt, het, hht, hlo⟩ := id hto
  obtain ⟨t1, t2, t3, t4, t5, t6, t7, t8, t9, t10, t11⟩ := id hT
  obtain ⟨m1, m2, m3, m4, m5, m6, m7⟩ := id hM
  obtain ⟨hh9, hv3, hb9, hfw, hfb⟩ := id hV
  have q1 := het e he
  have q0 := (hv3 (teb T e) q1.2.2)
  refine run_ok 3 (c' := (5, [(0, .ref 48), (1, .int (nI e))], [.int (nI e), .ref 62], S)) rfl ?_
  refine x_iaN (nI (teb T e)) rfl rfl (by decide) (by omega) (t8 e (by omega)) ?_
  refine run_ok 4 (c' := (12, [(0, .ref 48), (1, .int (nI e)), (2, .int (nI (teb T e)))], [.int (S.1 48 5), .int (nI (teb T e))], S)) rfl ?_
  refine x_top (v' := nI (tnb T)) t9 ?_
  refine x_icmpN_ge 29 rfl rfl (by omega) (by omega) (fun h12 => ?_) (fun h12 => ?_)
  · refine run_ok 5 (c' := (36, [(0, .ref 48), (1, .int (nI e)), (2, .int (nI (teb T e))), (3, .int (nI 0))], [.int (nI e), .ref 60], S)) rfl ?_
    refine x_iaN (nI 0) rfl rfl (by decide) (by omega) (by rw [t6 e he, hkd]) ?_
    refine x_ifN_ne 44 rfl rfl (by omega) (fun hn => absurd hn (by decide)) (fun _ => ?_)
    refine run_ok 1 (c' := (41, [(0, .ref 48), (1, .int (nI e)), (2, .int (nI (teb T e))), (3, .int (nI 0))], [.ref 48], S)) rfl ?_
    refine x_callV [] rfl cv_R_storms.1 lk_7_188 cv_R_storms.2.1 cv_R_storms.2.2.1 rfl cv_R_storms.2.2.2.1 rfl rfl (Nat.le_of_ble_eq_true rfl) (by decide) cv_R_storms.2.2.2.2 (m_storms S T V hT hto m2 m5 (fun k hk => (hb9 k hk).1) (fun k hk => (hv3 k hk).1)) ?_
    rintro r u ⟨hr, h67, hfu, h2u⟩
    rw [hr]
    clear hr r
    refine run_ok 3 (c' := (49, [(0, .ref 48), (1, .int (nI e)), (2, .int (nI (teb T e))), (3, .int (nI 0))], [.int (nI e), .ref 60], u)) rfl ?_
    refine x_iaN (nI 0) rfl rfl (by decide) (by omega) (by rw [hfu 60 (by decide), t6 e he, hkd]) ?_
    refine run_ok 1 (c' := (51, [(0, .ref 48), (1, .int (nI e)), (2, .int (nI (teb T e))), (3, .int (nI 0))], [.int (nI 1), .int (nI 0)], u)) rfl ?_
    refine x_icmpN_ne 63 rfl rfl (by omega) (by omega) (fun _ => ?_) (fun hn => absurd hn (by decide))
    refine run_ok 3 (c' := (68, [(0, .ref 48), (1, .int (nI e)), (2, .int (nI (teb T e))), (3, .int (nI 0))], [.int (nI e), .ref 60], u)) rfl ?_
    refine x_iaN (nI 0) rfl rfl (by decide) (by omega) (by rw [hfu 60 (by decide), t6 e he, hkd]) ?_
    refine run_ok 1 (c' := (70, [(0, .ref 48), (1, .int (nI e)), (2, .int (nI (teb T e))), (3, .int (nI 0))], [.int (nI 2), .int (nI 0)], u)) rfl ?_
    refine x_icmpN_ne 82 rfl rfl (by omega) (by omega) (fun _ => ?_) (fun hn => absurd hn (by decide))
    exact x_ret (r := none) rfl rfl trivial ⟨rfl, by rw [show evt T V e = stm T V from if_pos hkd]; exact MV_stm hM h67 hfu, hfu.sub (by decide), h2u⟩ rfl
  · refine run_ok 3 (c' := (20, [(0, .ref 48), (1, .int (nI e)), (2, .int (nI (teb T e)))], [.int (nI (teb T e)), .ref 64], S)) rfl ?_
    refine x_iaN (nI (vis V (teb T e))) rfl rfl (by decide) (by omega) (m2 (teb T e) (by omega)) ?_
    refine run_ok 1 (c' := (22, [(0, .ref 48), (1, .int (nI e)), (2, .int (nI (teb T e)))], [.int (nI 1), .int (nI (vis V (teb T e)))], S)) rfl ?_
    refine x_icmpN_ne 29 rfl rfl (by omega) (by omega) (fun h22 => ?_) (fun h22 => ?_)
    · refine run_ok 5 (c' := (36, [(0, .ref 48), (1, .int (nI e)), (2, .int (nI (teb T e))), (3, .int (nI 0))], [.int (nI e), .ref 60], S)) rfl ?_
      refine x_iaN (nI 0) rfl rfl (by decide) (by omega) (by rw [t6 e he, hkd]) ?_
      refine x_ifN_ne 44 rfl rfl (by omega) (fun hn => absurd hn (by decide)) (fun _ => ?_)
      refine run_ok 1 (c' := (41, [(0, .ref 48), (1, .int (nI e)), (2, .int (nI (teb T e))), (3, .int (nI 0))], [.ref 48], S)) rfl ?_
      refine x_callV [] rfl cv_R_storms.1 lk_7_188 cv_R_storms.2.1 cv_R_storms.2.2.1 rfl cv_R_storms.2.2.2.1 rfl rfl (Nat.le_of_ble_eq_true rfl) (by decide) cv_R_storms.2.2.2.2 (m_storms S T V hT hto m2 m5 (fun k hk => (hb9 k hk).1) (fun k hk => (hv3 k hk).1)) ?_
      rintro r u ⟨hr, h67, hfu, h2u⟩
      rw [hr]
      clear hr r
      refine run_ok 3 (c' := (49, [(0, .ref 48), (1, .int (nI e)), (2, .int (nI (teb T e))), (3, .int (nI 0))], [.int (nI e), .ref 60], u)) rfl ?_
      refine x_iaN (nI 0) rfl rfl (by decide) (by omega) (by rw [hfu 60 (by decide), t6 e he, hkd]) ?_
      refine run_ok 1 (c' := (51, [(0, .ref 48), (1, .int (nI e)), (2, .int (nI (teb T e))), (3, .int (nI 0))], [.int (nI 1), .int (nI 0)], u)) rfl ?_
      refine x_icmpN_ne 63 rfl rfl (by omega) (by omega) (fun _ => ?_) (fun hn => absurd hn (by decide))
      refine run_ok 3 (c' := (68, [(0, .ref 48), (1, .int (nI e)), (2, .int (nI (teb T e))), (3, .int (nI 0))], [.int (nI e), .ref 60], u)) rfl ?_
      refine x_iaN (nI 0) rfl rfl (by decide) (by omega) (by rw [hfu 60 (by decide), t6 e he, hkd]) ?_
      refine run_ok 1 (c' := (70, [(0, .ref 48), (1, .int (nI e)), (2, .int (nI (teb T e))), (3, .int (nI 0))], [.int (nI 2), .int (nI 0)], u)) rfl ?_
      refine x_icmpN_ne 82 rfl rfl (by omega) (by omega) (fun _ => ?_) (fun hn => absurd hn (by decide))
      exact x_ret (r := none) rfl rfl trivial ⟨rfl, by rw [show evt T V e = stm T V from if_pos hkd]; exact MV_stm hM h67 hfu, hfu.sub (by decide), h2u⟩ rfl
    · refine run_ok 6 (c' := (36, [(0, .ref 48), (1, .int (nI e)), (2, .int (nI (teb T e))), (3, .int (nI 1))], [.int (nI e), .ref 60], S)) rfl ?_
      refine x_iaN (nI 0) rfl rfl (by decide) (by omega) (by rw [t6 e he, hkd]) ?_
      refine x_ifN_ne 44 rfl rfl (by omega) (fun hn => absurd hn (by decide)) (fun _ => ?_)
      refine run_ok 1 (c' := (41, [(0, .ref 48), (1, .int (nI e)), (2, .int (nI (teb T e))), (3, .int (nI 1))], [.ref 48], S)) rfl ?_
      refine x_callV [] rfl cv_R_storms.1 lk_7_188 cv_R_storms.2.1 cv_R_storms.2.2.1 rfl cv_R_storms.2.2.2.1 rfl rfl (Nat.le_of_ble_eq_true rfl) (by decide) cv_R_storms.2.2.2.2 (m_storms S T V hT hto m2 m5 (fun k hk => (hb9 k hk).1) (fun k hk => (hv3 k hk).1)) ?_
      rintro r u ⟨hr, h67, hfu, h2u⟩
      rw [hr]
      clear hr r
      refine run_ok 3 (c' := (49, [(0, .ref 48), (1, .int (nI e)), (2, .int (nI (teb T e))), (3, .int (nI 1))], [.int (nI e), .ref 60], u)) rfl ?_
      refine x_iaN (nI 0) rfl rfl (by decide) (by omega) (by rw [hfu 60 (by decide), t6 e he, hkd]) ?_
      refine run_ok 1 (c' := (51, [(0, .ref 48), (1, .int (nI e)), (2, .int (nI (teb T e))), (3, .int (nI 1))], [.int (nI 1), .int (nI 0)], u)) rfl ?_
      refine x_icmpN_ne 63 rfl rfl (by omega) (by omega) (fun _ => ?_) (fun hn => absurd hn (by decide))
      refine run_ok 3 (c' := (68, [(0, .ref 48), (1, .int (nI e)), (2, .int (nI (teb T e))), (3, .int (nI 1))], [.int (nI e), .ref 60], u)) rfl ?_
      refine x_iaN (nI 0) rfl rfl (by decide) (by omega) (by rw [hfu 60 (by decide), t6 e he, hkd]) ?_
      refine run_ok 1 (c' := (70, [(0, .ref 48), (1, .int (nI e)), (2, .int (nI (teb T e))), (3, .int (nI 1))], [.int (nI 2), .int (nI 0)], u)) rfl ?_
      refine x_icmpN_ne 82 rfl rfl (by omega) (by omega) (fun _ => ?_) (fun hn => absurd hn (by decide))
      exact x_ret (r := none) rfl rfl trivial ⟨rfl, by rw [show evt T V e = stm T V from if_pos hkd]; exact MV_stm hM h67 hfu, hfu.sub (by decide), h2u⟩ rfl

set_option maxHeartbeats 2000000 in
theorem m_befalls1 (S : ST) (T : TD) (V : VS) (e : Nat) (hT : MT T S) (hto : tok T) (hM : MV T V S) (hV : vk T V) (he : e < tne T) (hkd : tek T e = 1) : EX me_R_befalls 1 [.ref 48, .int (nI e)] S (fun r u => r = none ∧ MV T (evt T V e) u ∧ fr [63, 66, 67] S u ∧ u.2 = S.2) := by
  refine EX.of mok_R_befalls (Nat.le_of_ble_eq_true rfl) ?_
  obtain ⟨n8, n9, hbt, het, hht, hlo⟩ := id hto
  obtain ⟨t1, t2, t3, t4, t5, t6, t7, t8, t9, t10, t11⟩ := id hT
  obtain ⟨m1, m2, m3, m4, m5, m6, m7⟩ := id hM
  obtain ⟨hh9, hv3, hb9, hfw, hfb⟩ := id hV
  have q1 := het e he
  have q0 := (hv3 (teb T e) q1.2.2)
  refine run_ok 3 (c' := (5, [(0, .ref 48), (1, .int (nI e))], [.int (nI e), .ref 62], S)) rfl ?_
  refine x_iaN (nI (teb T e)) rfl rfl (by decide) (by omega) (t8 e (by omega)) ?_
  refine run_ok 4 (c' := (12, [(0, .ref 48), (1, .int (nI e)), (2, .int (nI (teb T e)))], [.int (S.1 48 5), .int (nI (teb T e))], S)) rfl ?_
  refine x_top (v' := nI (tnb T)) t9 ?_
  refine x_icmpN_ge 29 rfl rfl (by omega) (by omega) (fun h12 => ?_) (fun h12 => ?_)
  · refine run_ok 5 (c' := (36, [(0, .ref 48), (1, .int (nI e)), (2, .int (nI (teb T e))), (3, .int (nI 0))], [.int (nI e), .ref 60], S)) rfl ?_
    refine x_iaN (nI 1) rfl rfl (by decide) (by omega) (by rw [t6 e he, hkd]) ?_
    refine x_ifN_ne 44 rfl rfl (by omega) (fun _ => ?_) (fun hn => absurd hn (by decide))
    refine run_ok 3 (c' := (49, [(0, .ref 48), (1, .int (nI e)), (2, .int (nI (teb T e))), (3, .int (nI 0))], [.int (nI e), .ref 60], S)) rfl ?_
    refine x_iaN (nI 1) rfl rfl (by decide) (by omega) (by rw [t6 e he, hkd]) ?_
    refine run_ok 1 (c' := (51, [(0, .ref 48), (1, .int (nI e)), (2, .int (nI (teb T e))), (3, .int (nI 0))], [.int (nI 1), .int (nI 1)], S)) rfl ?_
    refine x_icmpN_ne 63 rfl rfl (by omega) (by omega) (fun hn => absurd hn (by decide)) (fun _ => ?_)
    refine run_ok 1 (c' := (55, [(0, .ref 48), (1, .int (nI e)), (2, .int (nI (teb T e))), (3, .int (nI 0))], [.int (nI 0)], S)) rfl ?_
    refine x_ifN_eq 63 rfl rfl (by omega) (fun _ => ?_) (fun hn => absurd hn (by decide))
    refine run_ok 3 (c' := (68, [(0, .ref 48), (1, .int (nI e)), (2, .int (nI (teb T e))), (3, .int (nI 0))], [.int (nI e), .ref 60], S)) rfl ?_
    refine x_iaN (nI 1) rfl rfl (by decide) (by omega) (by rw [t6 e he, hkd]) ?_
    refine run_ok 1 (c' := (70, [(0, .ref 48), (1, .int (nI e)), (2, .int (nI (teb T e))), (3, .int (nI 0))], [.int (nI 2), .int (nI 1)], S)) rfl ?_
    refine x_icmpN_ne 82 rfl rfl (by omega) (by omega) (fun _ => ?_) (fun hn => absurd hn (by decide))
    exact x_ret (r := none) rfl rfl trivial ⟨rfl, by rw [show evt T V e = V from (if_neg (by omega)).trans (if_neg (fun z => by first | exact h22 z | exact absurd (q0.2.2 z).1 (by omega)))]; exact hM, fr.rf, rfl⟩ rfl
  · refine run_ok 3 (c' := (20, [(0, .ref 48), (1, .int (nI e)), (2, .int (nI (teb T e)))], [.int (nI (teb T e)), .ref 64], S)) rfl ?_
    refine x_iaN (nI (vis V (teb T e))) rfl rfl (by decide) (by omega) (m2 (teb T e) (by omega)) ?_
    refine run_ok 1 (c' := (22, [(0, .ref 48), (1, .int (nI e)), (2, .int (nI (teb T e)))], [.int (nI 1), .int (nI (vis V (teb T e)))], S)) rfl ?_
    refine x_icmpN_ne 29 rfl rfl (by omega) (by omega) (fun h22 => ?_) (fun h22 => ?_)
    · refine run_ok 5 (c' := (36, [(0, .ref 48), (1, .int (nI e)), (2, .int (nI (teb T e))), (3, .int (nI 0))], [.int (nI e), .ref 60], S)) rfl ?_
      refine x_iaN (nI 1) rfl rfl (by decide) (by omega) (by rw [t6 e he, hkd]) ?_
      refine x_ifN_ne 44 rfl rfl (by omega) (fun _ => ?_) (fun hn => absurd hn (by decide))
      refine run_ok 3 (c' := (49, [(0, .ref 48), (1, .int (nI e)), (2, .int (nI (teb T e))), (3, .int (nI 0))], [.int (nI e), .ref 60], S)) rfl ?_
      refine x_iaN (nI 1) rfl rfl (by decide) (by omega) (by rw [t6 e he, hkd]) ?_
      refine run_ok 1 (c' := (51, [(0, .ref 48), (1, .int (nI e)), (2, .int (nI (teb T e))), (3, .int (nI 0))], [.int (nI 1), .int (nI 1)], S)) rfl ?_
      refine x_icmpN_ne 63 rfl rfl (by omega) (by omega) (fun hn => absurd hn (by decide)) (fun _ => ?_)
      refine run_ok 1 (c' := (55, [(0, .ref 48), (1, .int (nI e)), (2, .int (nI (teb T e))), (3, .int (nI 0))], [.int (nI 0)], S)) rfl ?_
      refine x_ifN_eq 63 rfl rfl (by omega) (fun _ => ?_) (fun hn => absurd hn (by decide))
      refine run_ok 3 (c' := (68, [(0, .ref 48), (1, .int (nI e)), (2, .int (nI (teb T e))), (3, .int (nI 0))], [.int (nI e), .ref 60], S)) rfl ?_
      refine x_iaN (nI 1) rfl rfl (by decide) (by omega) (by rw [t6 e he, hkd]) ?_
      refine run_ok 1 (c' := (70, [(0, .ref 48), (1, .int (nI e)), (2, .int (nI (teb T e))), (3, .int (nI 0))], [.int (nI 2), .int (nI 1)], S)) rfl ?_
      refine x_icmpN_ne 82 rfl rfl (by omega) (by omega) (fun _ => ?_) (fun hn => absurd hn (by decide))
      exact x_ret (r := none) rfl rfl trivial ⟨rfl, by rw [show evt T V e = V from (if_neg (by omega)).trans (if_neg (fun z => by first | exact h22 z | exact absurd (q0.2.2 z).1 (by omega)))]; exact hM, fr.rf, rfl⟩ rfl
    · refine run_ok 6 (c' := (36, [(0, .ref 48), (1, .int (nI e)), (2, .int (nI (teb T e))), (3, .int (nI 1))], [.int (nI e), .ref 60], S)) rfl ?_
      refine x_iaN (nI 1) rfl rfl (by decide) (by omega) (by rw [t6 e he, hkd]) ?_
      refine x_ifN_ne 44 rfl rfl (by omega) (fun _ => ?_) (fun hn => absurd hn (by decide))
      refine run_ok 3 (c' := (49, [(0, .ref 48), (1, .int (nI e)), (2, .int (nI (teb T e))), (3, .int (nI 1))], [.int (nI e), .ref 60], S)) rfl ?_
      refine x_iaN (nI 1) rfl rfl (by decide) (by omega) (by rw [t6 e he, hkd]) ?_
      refine run_ok 1 (c' := (51, [(0, .ref 48), (1, .int (nI e)), (2, .int (nI (teb T e))), (3, .int (nI 1))], [.int (nI 1), .int (nI 1)], S)) rfl ?_
      refine x_icmpN_ne 63 rfl rfl (by omega) (by omega) (fun hn => absurd hn (by decide)) (fun _ => ?_)
      refine run_ok 1 (c' := (55, [(0, .ref 48), (1, .int (nI e)), (2, .int (nI (teb T e))), (3, .int (nI 1))], [.int (nI 1)], S)) rfl ?_
      refine x_ifN_eq 63 rfl rfl (by omega) (fun hn => absurd hn (by decide)) (fun _ => ?_)
      refine run_ok 2 (c' := (60, [(0, .ref 48), (1, .int (nI e)), (2, .int (nI (teb T e))), (3, .int (nI 1))], [.int (nI (teb T e)), .ref 48], S)) rfl ?_
      refine x_callV [.int (nI (teb T e))] rfl cv_R_shares.1 lk_7_191 cv_R_shares.2.1 cv_R_shares.2.2.1 rfl cv_R_shares.2.2.2.1 rfl rfl (Nat.le_of_ble_eq_true rfl) (by decide) cv_R_shares.2.2.2.2 (m_shares S T V (teb T e) hT hto hM hV (by omega) (q0.2.2 h22).2) ?_
      rintro r u ⟨hr, hMu, hfu, h2u⟩
      rw [hr]
      clear hr r
      refine run_ok 3 (c' := (68, [(0, .ref 48), (1, .int (nI e)), (2, .int (nI (teb T e))), (3, .int (nI 1))], [.int (nI e), .ref 60], u)) rfl ?_
      refine x_iaN (nI 1) rfl rfl (by decide) (by omega) (by rw [hfu 60 (by decide), t6 e he, hkd]) ?_
      refine run_ok 1 (c' := (70, [(0, .ref 48), (1, .int (nI e)), (2, .int (nI (teb T e))), (3, .int (nI 1))], [.int (nI 2), .int (nI 1)], u)) rfl ?_
      refine x_icmpN_ne 82 rfl rfl (by omega) (by omega) (fun _ => ?_) (fun hn => absurd hn (by decide))
      exact x_ret (r := none) rfl rfl trivial ⟨rfl, by rw [show evt T V e = shr T V (teb T e) from (if_neg (by omega)).trans ((if_pos h22).trans (if_pos hkd))]; exact hMu, hfu.sub (by decide), h2u⟩ rfl

set_option maxHeartbeats 2000000 in
theorem m_befalls2 (S : ST) (T : TD) (V : VS) (e : Nat) (hT : MT T S) (hto : tok T) (hM : MV T V S) (hV : vk T V) (he : e < tne T) (hkd : tek T e = 2) : EX me_R_befalls 1 [.ref 48, .int (nI e)] S (fun r u => r = none ∧ MV T (evt T V e) u ∧ fr [63, 66, 67] S u ∧ u.2 = S.2) := by
  refine EX.of mok_R_befalls (Nat.le_of_ble_eq_true rfl) ?_
  obtain ⟨n8, n9, hbt, het, hht, hlo⟩ := id hto
  obtain ⟨t1, t2, t3, t4, t5, t6, t7, t8, t9, t10, t11⟩ := id hT
  obtain ⟨m1, m2, m3, m4, m5, m6, m7⟩ := id hM
  obtain ⟨hh9, hv3, hb9, hfw, hfb⟩ := id hV
  have q1 := het e he
  have q0 := (hv3 (teb T e) q1.2.2)
  refine run_ok 3 (c' := (5, [(0, .ref 48), (1, .int (nI e))], [.int (nI e), .ref 62], S)) rfl ?_
  refine x_iaN (nI (teb T e)) rfl rfl (by decide) (by omega) (t8 e (by omega)) ?_
  refine run_ok 4 (c' := (12, [(0, .ref 48), (1, .int (nI e)), (2, .int (nI (teb T e)))], [.int (S.1 48 5), .int (nI (teb T e))], S)) rfl ?_
  refine x_top (v' := nI (tnb T)) t9 ?_
  refine x_icmpN_ge 29 rfl rfl (by omega) (by omega) (fun h12 => ?_) (fun h12 => ?_)
  · refine run_ok 5 (c' := (36, [(0, .ref 48), (1, .int (nI e)), (2, .int (nI (teb T e))), (3, .int (nI 0))], [.int (nI e), .ref 60], S)) rfl ?_
    refine x_iaN (nI 2) rfl rfl (by decide) (by omega) (by rw [t6 e he, hkd]) ?_
    refine x_ifN_ne 44 rfl rfl (by omega) (fun _ => ?_) (fun hn => absurd hn (by decide))
    refine run_ok 3 (c' := (49, [(0, .ref 48), (1, .int (nI e)), (2, .int (nI (teb T e))), (3, .int (nI 0))], [.int (nI e), .ref 60], S)) rfl ?_
    refine x_iaN (nI 2) rfl rfl (by decide) (by omega) (by rw [t6 e he, hkd]) ?_
    refine run_ok 1 (c' := (51, [(0, .ref 48), (1, .int (nI e)), (2, .int (nI (teb T e))), (3, .int (nI 0))], [.int (nI 1), .int (nI 2)], S)) rfl ?_
    refine x_icmpN_ne 63 rfl rfl (by omega) (by omega) (fun _ => ?_) (fun hn => absurd hn (by decide))
    refine run_ok 3 (c' := (68, [(0, .ref 48), (1, .int (nI e)), (2, .int (nI (teb T e))), (3, .int (nI 0))], [.int (nI e), .ref 60], S)) rfl ?_
    refine x_iaN (nI 2) rfl rfl (by decide) (by omega) (by rw [t6 e he, hkd]) ?_
    refine run_ok 1 (c' := (70, [(0, .ref 48), (1, .int (nI e)), (2, .int (nI (teb T e))), (3, .int (nI 0))], [.int (nI 2), .int (nI 2)], S)) rfl ?_
    refine x_icmpN_ne 82 rfl rfl (by omega) (by omega) (fun hn => absurd hn (by decide)) (fun _ => ?_)
    refine run_ok 1 (c' := (74, [(0, .ref 48), (1, .int (nI e)), (2, .int (nI (teb T e))), (3, .int (nI 0))], [.int (nI 0)], S)) rfl ?_
    refine x_ifN_eq 82 rfl rfl (by omega) (fun _ => ?_) (fun hn => absurd hn (by decide))
    exact x_ret (r := none) rfl rfl trivial ⟨rfl, by rw [show evt T V e = V from (if_neg (by omega)).trans (if_neg (fun z => by first | exact h22 z | exact absurd (q0.2.2 z).1 (by omega)))]; exact hM, fr.rf, rfl⟩ rfl
  · refine run_ok 3 (c' := (20, [(0, .ref 48), (1, .int (nI e)), (2, .int (nI (teb T e)))], [.int (nI (teb T e)), .ref 64], S)) rfl ?_
    refine x_iaN (nI (vis V (teb T e))) rfl rfl (by decide) (by omega) (m2 (teb T e) (by omega)) ?_
    refine run_ok 1 (c' := (22, [(0, .ref 48), (1, .int (nI e)), (2, .int (nI (teb T e)))], [.int (nI 1), .int (nI (vis V (teb T e)))], S)) rfl ?_
    refine x_icmpN_ne 29 rfl rfl (by omega) (by omega) (fun h22 => ?_) (fun h22 => ?_)
    · refine run_ok 5 (c' := (36, [(0, .ref 48), (1, .int (nI e)), (2, .int (nI (teb T e))), (3, .int (nI 0))], [.int (nI e), .ref 60], S)) rfl ?_
      refine x_iaN (nI 2) rfl rfl (by decide) (by omega) (by rw [t6 e he, hkd]) ?_
      refine x_ifN_ne 44 rfl rfl (by omega) (fun _ => ?_) (fun hn => absurd hn (by decide))
      refine run_ok 3 (c' := (49, [(0, .ref 48), (1, .int (nI e)), (2, .int (nI (teb T e))), (3, .int (nI 0))], [.int (nI e), .ref 60], S)) rfl ?_
      refine x_iaN (nI 2) rfl rfl (by decide) (by omega) (by rw [t6 e he, hkd]) ?_
      refine run_ok 1 (c' := (51, [(0, .ref 48), (1, .int (nI e)), (2, .int (nI (teb T e))), (3, .int (nI 0))], [.int (nI 1), .int (nI 2)], S)) rfl ?_
      refine x_icmpN_ne 63 rfl rfl (by omega) (by omega) (fun _ => ?_) (fun hn => absurd hn (by decide))
      refine run_ok 3 (c' := (68, [(0, .ref 48), (1, .int (nI e)), (2, .int (nI (teb T e))), (3, .int (nI 0))], [.int (nI e), .ref 60], S)) rfl ?_
      refine x_iaN (nI 2) rfl rfl (by decide) (by omega) (by rw [t6 e he, hkd]) ?_
      refine run_ok 1 (c' := (70, [(0, .ref 48), (1, .int (nI e)), (2, .int (nI (teb T e))), (3, .int (nI 0))], [.int (nI 2), .int (nI 2)], S)) rfl ?_
      refine x_icmpN_ne 82 rfl rfl (by omega) (by omega) (fun hn => absurd hn (by decide)) (fun _ => ?_)
      refine run_ok 1 (c' := (74, [(0, .ref 48), (1, .int (nI e)), (2, .int (nI (teb T e))), (3, .int (nI 0))], [.int (nI 0)], S)) rfl ?_
      refine x_ifN_eq 82 rfl rfl (by omega) (fun _ => ?_) (fun hn => absurd hn (by decide))
      exact x_ret (r := none) rfl rfl trivial ⟨rfl, by rw [show evt T V e = V from (if_neg (by omega)).trans (if_neg (fun z => by first | exact h22 z | exact absurd (q0.2.2 z).1 (by omega)))]; exact hM, fr.rf, rfl⟩ rfl
    · refine run_ok 6 (c' := (36, [(0, .ref 48), (1, .int (nI e)), (2, .int (nI (teb T e))), (3, .int (nI 1))], [.int (nI e), .ref 60], S)) rfl ?_
      refine x_iaN (nI 2) rfl rfl (by decide) (by omega) (by rw [t6 e he, hkd]) ?_
      refine x_ifN_ne 44 rfl rfl (by omega) (fun _ => ?_) (fun hn => absurd hn (by decide))
      refine run_ok 3 (c' := (49, [(0, .ref 48), (1, .int (nI e)), (2, .int (nI (teb T e))), (3, .int (nI 1))], [.int (nI e), .ref 60], S)) rfl ?_
      refine x_iaN (nI 2) rfl rfl (by decide) (by omega) (by rw [t6 e he, hkd]) ?_
      refine run_ok 1 (c' := (51, [(0, .ref 48), (1, .int (nI e)), (2, .int (nI (teb T e))), (3, .int (nI 1))], [.int (nI 1), .int (nI 2)], S)) rfl ?_
      refine x_icmpN_ne 63 rfl rfl (by omega) (by omega) (fun _ => ?_) (fun hn => absurd hn (by decide))
      refine run_ok 3 (c' := (68, [(0, .ref 48), (1, .int (nI e)), (2, .int (nI (teb T e))), (3, .int (nI 1))], [.int (nI e), .ref 60], S)) rfl ?_
      refine x_iaN (nI 2) rfl rfl (by decide) (by omega) (by rw [t6 e he, hkd]) ?_
      refine run_ok 1 (c' := (70, [(0, .ref 48), (1, .int (nI e)), (2, .int (nI (teb T e))), (3, .int (nI 1))], [.int (nI 2), .int (nI 2)], S)) rfl ?_
      refine x_icmpN_ne 82 rfl rfl (by omega) (by omega) (fun hn => absurd hn (by decide)) (fun _ => ?_)
      refine run_ok 1 (c' := (74, [(0, .ref 48), (1, .int (nI e)), (2, .int (nI (teb T e))), (3, .int (nI 1))], [.int (nI 1)], S)) rfl ?_
      refine x_ifN_eq 82 rfl rfl (by omega) (fun hn => absurd hn (by decide)) (fun _ => ?_)
      refine run_ok 2 (c' := (79, [(0, .ref 48), (1, .int (nI e)), (2, .int (nI (teb T e))), (3, .int (nI 1))], [.int (nI (teb T e)), .ref 48], S)) rfl ?_
      refine x_callV [.int (nI (teb T e))] rfl cv_R_makesUp.1 lk_7_195 cv_R_makesUp.2.1 cv_R_makesUp.2.2.1 rfl cv_R_makesUp.2.2.2.1 rfl rfl (Nat.le_of_ble_eq_true rfl) (by decide) cv_R_makesUp.2.2.2.2 (m_makesUp S T V (teb T e) hT hto hM hV (by omega) (q0.2.2 h22).2) ?_
      rintro r u ⟨hr, hMu, hfu, h2u⟩
      rw [hr]
      clear hr r
      exact x_ret (r := none) rfl rfl trivial ⟨rfl, by rw [show evt T V e = mku T V (teb T e) from (if_neg (by omega)).trans ((if_pos h22).trans (if_neg (by omega)))]; exact hMu, hfu.sub (by decide), h2u⟩ rfl

theorem m_befalls (S : ST) (T : TD) (V : VS) (e : Nat) (hT : MT T S) (hto : tok T) (hM : MV T V S) (hV : vk T V) (he : e < tne T) : EX me_R_befalls 1 [.ref 48, .int (nI e)] S (fun r u => r = none ∧ MV T (evt T V e) u ∧ fr [63, 66, 67] S u ∧ u.2 = S.2) := by
  have q := (hto.2.2.2.1 e he).1
  rcases (show tek T e = 0 ∨ tek T e = 1 ∨ tek T e = 2 by omega) with h | h | h
  · exact m_befalls0 S T V e hT hto hM hV he h
  · exact m_befalls1 S T V e hT hto hM hV he h
  · exact m_befalls2 S T V e hT hto hM hV he h

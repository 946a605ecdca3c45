/-! the class: events, with the number of hates kept; what is told is sound -/
set_option maxHeartbeats 2000000 in
theorem c_addEventK (S : ST) (T : TD) (kd w b : Nat) (hT : TR 5 T S) (hne : tne T ≤ 8) : EX me_T_addEvent 0 [.ref 5, .int (nI kd), .int (nI w), .int (nI b)] S (fun r u => r = none ∧ TR 5 (wev T (tne T + 1) (upn (tek T) (tne T) kd) (upn (tew T) (tne T) w) (upn (teb T) (tne T) b)) u ∧ fr [5, 11, 12, 13] S u ∧ u.2 = S.2 ∧ u.1 5 1 = S.1 5 1) := by
  refine EX.of mok_T_addEvent (Nat.le_of_ble_eq_true rfl) ?_
  obtain ⟨t1, t2, t3, t4, t5, t6, t7, t8, t9, t10, t11⟩ := id hT
  refine run_ok 2 (c' := (4, [(0, .ref 5), (1, .int (nI kd)), (2, .int (nI w)), (3, .int (nI b))], [.int (S.1 5 10)], S)) rfl ?_
  refine x_top (v' := nI (tne T)) t10 ?_
  refine run_ok 1 (c' := (6, [(0, .ref 5), (1, .int (nI kd)), (2, .int (nI w)), (3, .int (nI b))], [.int (nI 8), .int (nI (tne T))], S)) rfl ?_
  refine x_icmpN_gt 49 rfl rfl (by omega) (by omega) (fun hn => absurd hn (show ¬ 8 < tne T by omega)) (fun h6 => ?_)
  refine run_ok 4 (c' := (17, [(0, .ref 5), (1, .int (nI kd)), (2, .int (nI w)), (3, .int (nI b))], [.int (S.1 5 10), .ref 11], S)) rfl ?_
  refine x_top (v' := nI (tne T)) t10 ?_
  refine run_ok 1 (c' := (18, [(0, .ref 5), (1, .int (nI kd)), (2, .int (nI w)), (3, .int (nI b))], [.int (nI kd), .int (nI (tne T)), .ref 11], S)) rfl ?_
  refine x_isN rfl rfl (by decide) (by omega) ?_
  refine run_ok 4 (c' := (27, [(0, .ref 5), (1, .int (nI kd)), (2, .int (nI w)), (3, .int (nI b))], [.int (S.1 5 10), .ref 12], (pt S 11 (tne T) (nI kd)))) rfl ?_
  refine x_top (v' := nI (tne T)) t10 ?_
  refine run_ok 1 (c' := (28, [(0, .ref 5), (1, .int (nI kd)), (2, .int (nI w)), (3, .int (nI b))], [.int (nI w), .int (nI (tne T)), .ref 12], (pt S 11 (tne T) (nI kd)))) rfl ?_
  refine x_isN rfl rfl (by decide) (by omega) ?_
  refine run_ok 4 (c' := (37, [(0, .ref 5), (1, .int (nI kd)), (2, .int (nI w)), (3, .int (nI b))], [.int (S.1 5 10), .ref 13], (pt (pt S 11 (tne T) (nI kd)) 12 (tne T) (nI w)))) rfl ?_
  refine x_top (v' := nI (tne T)) t10 ?_
  refine run_ok 1 (c' := (38, [(0, .ref 5), (1, .int (nI kd)), (2, .int (nI w)), (3, .int (nI b))], [.int (nI b), .int (nI (tne T)), .ref 13], (pt (pt S 11 (tne T) (nI kd)) 12 (tne T) (nI w)))) rfl ?_
  refine x_isN rfl rfl (by decide) (by omega) ?_
  refine run_ok 3 (c' := (44, [(0, .ref 5), (1, .int (nI kd)), (2, .int (nI w)), (3, .int (nI b))], [.int (S.1 5 10), .ref 5], (pt (pt (pt S 11 (tne T) (nI kd)) 12 (tne T) (nI w)) 13 (tne T) (nI b)))) rfl ?_
  refine x_top (v' := nI (tne T)) t10 ?_
  refine run_ok 2 (c' := (46, [(0, .ref 5), (1, .int (nI kd)), (2, .int (nI w)), (3, .int (nI b))], [.int ((nI (tne T)) + (nI 1)), .ref 5], (pt (pt (pt S 11 (tne T) (nI kd)) 12 (tne T) (nI w)) 13 (tne T) (nI b)))) rfl ?_
  refine x_top (v' := nI ((tne T) + 1)) (nI_add _ _) ?_
  refine run_ok 1 (c' := (49, [(0, .ref 5), (1, .int (nI kd)), (2, .int (nI w)), (3, .int (nI b))], [], (pt (pt (pt (pt S 11 (tne T) (nI kd)) 12 (tne T) (nI w)) 13 (tne T) (nI b)) 5 10 (nI ((tne T) + 1))))) rfl ?_
  refine x_ret (r := none) rfl rfl trivial ?_ rfl
  have ex : ∀ (f : Nat → Nat) (x v : Nat) (k : Nat), rh S k (tne T) f → ∀ j, j < tne T + 1 → upd (S.1 k) (tne T) (nI v) j = nI (upn f (tne T) v j) := by
    intro f x v k h j hj
    unfold upd upn
    split
    · rfl
    · exact h j (by omega)
  refine ⟨rfl, ⟨t1, t2, t3, t4, t5, ex _ 0 _ _ t6, ex _ 0 _ _ t7, ex _ 0 _ _ t8, t9, rfl, t11⟩, ?_, rfl, rfl⟩
  refine fr.pt (fr.pt (fr.pt (fr.pt fr.rf ?_) ?_) ?_) ?_ <;> decide

set_option maxHeartbeats 2000000 in
theorem c_eventK (S : ST) (T : TD) (hT : TR 5 T S) (hto : tok T) (kd w b : Nat) (hkd : kd < 3) (hw : w < 24) (hb : b < 8) (hne : tne T < 8) : EX me_N_event 1 [.ref 0, .int (nI kd), .int (nI w), .int (nI b)] S (fun r u => r = some (.int (nI (tne T + 1))) ∧ TR 5 (wev T (tne T + 1) (upn (tek T) (tne T) kd) (upn (tew T) (tne T) w) (upn (teb T) (tne T) b)) u ∧ fr [5, 11, 12, 13] S u ∧ u.2 = S.2 ∧ u.1 5 1 = S.1 5 1) := by
  refine EX.of mok_N_event (Nat.le_of_ble_eq_true rfl) ?_
  obtain ⟨n8, n9, hbt, het, hht, hlo⟩ := id hto
  obtain ⟨t1, t2, t3, t4, t5, t6, t7, t8, t9, t10, t11⟩ := id hT
  refine run_ok 2 (c' := (2, [(0, .ref 0), (1, .int (nI kd)), (2, .int (nI w)), (3, .int (nI b))], [.int (nI 3), .int (nI kd)], S)) rfl ?_
  refine x_callS [.int (nI kd), .int (nI 3)] rfl cs_N_isBelow.1 lk_6_73 cs_N_isBelow.2.1 rfl rfl (Nat.le_of_ble_eq_true rfl) (by decide) cs_N_isBelow.2.2 (c_isBelow S (nI kd) (nI 3)) ?_
  rintro r u ⟨hr, hu⟩
  rw [hr, hu]
  clear hr hu r u
  refine x_ifB_eq 26 rfl rfl (fun hn => absurd hn (fun z => z (inr_t hkd (by decide)))) (fun h5 => ?_)
  refine run_ok 2 (c' := (11, [(0, .ref 0), (1, .int (nI kd)), (2, .int (nI w)), (3, .int (nI b))], [.int (nI 24), .int (nI w)], S)) rfl ?_
  refine x_callS [.int (nI w), .int (nI 24)] rfl cs_N_isBelow.1 lk_6_73 cs_N_isBelow.2.1 rfl rfl (Nat.le_of_ble_eq_true rfl) (by decide) cs_N_isBelow.2.2 (c_isBelow S (nI w) (nI 24)) ?_
  rintro r u ⟨hr, hu⟩
  rw [hr, hu]
  clear hr hu r u
  refine x_ifB_eq 26 rfl rfl (fun hn => absurd hn (fun z => z (inr_t hw (by decide)))) (fun h14 => ?_)
  refine run_ok 2 (c' := (20, [(0, .ref 0), (1, .int (nI kd)), (2, .int (nI w)), (3, .int (nI b))], [.int (nI 8), .int (nI b)], S)) rfl ?_
  refine x_callS [.int (nI b), .int (nI 8)] rfl cs_N_isBelow.1 lk_6_73 cs_N_isBelow.2.1 rfl rfl (Nat.le_of_ble_eq_true rfl) (by decide) cs_N_isBelow.2.2 (c_isBelow S (nI b) (nI 8)) ?_
  rintro r u ⟨hr, hu⟩
  rw [hr, hu]
  clear hr hu r u
  refine x_ifB_ne 29 rfl rfl (fun h23 => ?_) (fun hn => absurd (inr_t hb (by decide)) hn)
  refine run_ok 3 (c' := (36, [(0, .ref 0), (1, .int (nI kd)), (2, .int (nI w)), (3, .int (nI b))], [.int (S.1 5 10)], S)) rfl ?_
  refine x_top (v' := nI (tne T)) t10 ?_
  refine run_ok 1 (c' := (38, [(0, .ref 0), (1, .int (nI kd)), (2, .int (nI w)), (3, .int (nI b))], [.int (nI 8), .int (nI (tne T))], S)) rfl ?_
  refine x_icmpN_lt 44 rfl rfl (by omega) (by omega) (fun h38 => ?_) (fun hn => absurd (show tne T < 8 by omega) hn)
  refine run_ok 5 (c' := (51, [(0, .ref 0), (1, .int (nI kd)), (2, .int (nI w)), (3, .int (nI b))], [.int (nI b), .int (nI w), .int (nI kd), .ref 5], S)) rfl ?_
  refine x_callV [.int (nI kd), .int (nI w), .int (nI b)] rfl cv_T_addEvent.1 lk_6_126 cv_T_addEvent.2.1 cv_T_addEvent.2.2.1 rfl cv_T_addEvent.2.2.2.1 rfl rfl (Nat.le_of_ble_eq_true rfl) (by decide) cv_T_addEvent.2.2.2.2 (c_addEventK S T kd w b hT (by omega)) ?_
  rintro r u ⟨hr, hTu, hfu, h2u, hku⟩
  rw [hr]
  clear hr r
  have t10u := hTu.2.2.2.2.2.2.2.2.2.1
  refine run_ok 3 (c' := (61, [(0, .ref 0), (1, .int (nI kd)), (2, .int (nI w)), (3, .int (nI b))], [.int (u.1 5 10)], u)) rfl ?_
  refine x_top (v' := nI (tne T + 1)) t10u ?_
  exact x_ret (r := some (.int (nI (tne T + 1)))) rfl rfl trivial ⟨rfl, hTu, hfu, h2u, hku⟩ rfl

set_option maxHeartbeats 2000000 in
theorem c_backK (S : ST) (T : TD) (hT : TR 5 T S) (hto : tok T) (hne : ¬ tne T = 0) : EX me_N_back 0 [.ref 0] S (fun r u => r = some (.int (nI (tne T - 1))) ∧ TR 5 (wev T (tne T - 1) (tek T) (tew T) (teb T)) u ∧ fr [5] S u ∧ u.2 = S.2 ∧ u.1 5 1 = S.1 5 1) := by
  refine EX.of mok_N_back (Nat.le_of_ble_eq_true rfl) ?_
  obtain ⟨n8, n9, hbt, het, hht, hlo⟩ := id hto
  obtain ⟨t1, t2, t3, t4, t5, t6, t7, t8, t9, t10, t11⟩ := id hT
  refine run_ok 3 (c' := (7, [(0, .ref 0)], [.int (S.1 5 10)], S)) rfl ?_
  refine x_top (v' := nI (tne T)) t10 ?_
  refine x_ifN_ne 13 rfl rfl (by omega) (fun h7 => ?_) (fun hn => absurd hn hne)
  refine run_ok 4 (c' := (21, [(0, .ref 0)], [.int (S.1 5 10), .ref 5], S)) rfl ?_
  refine x_top (v' := nI (tne T)) t10 ?_
  refine run_ok 2 (c' := (23, [(0, .ref 0)], [.int ((nI (tne T)) - (nI 1)), .ref 5], S)) rfl ?_
  refine x_top (v' := nI (tne T - 1)) (pk_sub (by omega)) ?_
  refine run_ok 4 (c' := (33, [(0, .ref 0)], [.int (nI (tne T - 1))], (pt S 5 10 (nI (tne T - 1))))) rfl ?_
  exact x_ret (r := some (.int (nI (tne T - 1)))) rfl rfl trivial ⟨rfl, ⟨t1, t2, t3, t4, t5, t6.le (by show tne T - 1 ≤ tne T; omega), t7.le (by show tne T - 1 ≤ tne T; omega), t8.le (by show tne T - 1 ≤ tne T; omega), t9, rfl, t11⟩, fr.rf.pt (by decide), rfl, rfl⟩ rfl

set_option maxHeartbeats 2000000 in
theorem c_readK0 (S : ST) (T : TD) (hT : TR 5 T S) (hto : tok T) (lo fm sz : Nat) (hH : HR 38 lo fm sz S) (hlo0 : lo = 0) : EX me_N_read 2 [.ref 0, .int (nI 0)] S (fun r u => r = some (.int (nI (rdf (S.1 39) (sz / 3) 0 T).1)) ∧ TR 5 (rdf (S.1 39) (sz / 3) 0 T).2 u ∧ tok (rdf (S.1 39) (sz / 3) 0 T).2 ∧ fr [5, 11, 12, 13] S u ∧ u.2 = S.2 ∧ u.1 5 1 = S.1 5 1) := by
  refine EX.of mok_N_read (Nat.le_of_ble_eq_true rfl) ?_
  obtain ⟨g3, g1, g2, hl1, hf2, hs60⟩ := id hH
  have H : ∀ i, i ≤ sz / 3 → ∀ (v : ST) (T1 : TD), TR 5 T1 v → tok T1 → fr [5, 11, 12, 13] S v → v.2 = S.2 → v.1 5 1 = S.1 5 1 → rdf (S.1 39) (sz / 3) 0 T = rdf (S.1 39) (sz / 3 - i) i T1 → BX me_N_read 2 none (fun r u => r = some (.int (nI (rdf (S.1 39) (sz / 3) 0 T).1)) ∧ TR 5 (rdf (S.1 39) (sz / 3) 0 T).2 u ∧ tok (rdf (S.1 39) (sz / 3) 0 T).2 ∧ fr [5, 11, 12, 13] S u ∧ u.2 = S.2 ∧ u.1 5 1 = S.1 5 1) (41, [(0, .ref 0), (1, .int (nI 0)), (2, .ref 38), (3, .int (nI (sz / 3))), (4, .int (nI i))], [], v) := by
    refine loop_up (P := fun i => ∀ (v : ST) (T1 : TD), TR 5 T1 v → tok T1 → fr [5, 11, 12, 13] S v → v.2 = S.2 → v.1 5 1 = S.1 5 1 → rdf (S.1 39) (sz / 3) 0 T = rdf (S.1 39) (sz / 3 - i) i T1 → BX me_N_read 2 none (fun r u => r = some (.int (nI (rdf (S.1 39) (sz / 3) 0 T).1)) ∧ TR 5 (rdf (S.1 39) (sz / 3) 0 T).2 u ∧ tok (rdf (S.1 39) (sz / 3) 0 T).2 ∧ fr [5, 11, 12, 13] S u ∧ u.2 = S.2 ∧ u.1 5 1 = S.1 5 1) (41, [(0, .ref 0), (1, .int (nI 0)), (2, .ref 38), (3, .int (nI (sz / 3))), (4, .int (nI i))], [], v)) (sz / 3) ?_ ?_
    · intro v T1 hT1 hk1 hf h2 hK hs
      refine run_ok 2 (c' := (44, [(0, .ref 0), (1, .int (nI 0)), (2, .ref 38), (3, .int (nI (sz / 3))), (4, .int (nI (sz / 3)))], [.int (nI (sz / 3)), .int (nI (sz / 3))], v)) rfl ?_
      refine x_icmpN_ge 94 rfl rfl (by omega) (by omega) (fun h44 => ?_) (fun hn => absurd (Nat.le_refl _) hn)
      refine run_ok 1 (c' := (95, [(0, .ref 0), (1, .int (nI 0)), (2, .ref 38), (3, .int (nI (sz / 3))), (4, .int (nI (sz / 3)))], [.int (nI (sz / 3))], v)) rfl ?_
      refine x_ret (r := some (.int (nI (sz / 3)))) rfl rfl trivial ?_ rfl
      rw [Nat.sub_self] at hs
      rw [hs]
      exact ⟨rfl, hT1, hk1, hf, h2, hK⟩
    · intro i hi ih v T1 hT1 hk1 hf h2 hK hs
      refine run_ok 2 (c' := (44, [(0, .ref 0), (1, .int (nI 0)), (2, .ref 38), (3, .int (nI (sz / 3))), (4, .int (nI i))], [.int (nI (sz / 3)), .int (nI i)], v)) rfl ?_
      refine x_icmpN_ge 94 rfl rfl (by omega) (by omega) (fun hn => absurd hn (show ¬ sz / 3 ≤ i by omega)) (fun h44 => ?_)
      refine run_ok 3 (c' := (51, [(0, .ref 0), (1, .int (nI 0)), (2, .ref 38), (3, .int (nI (sz / 3))), (4, .int (nI i))], [.int ((nI 3) * (nI i))], v)) rfl ?_
      refine x_top (v' := nI (3 * i)) (pk_mul _ _) ?_
      refine run_ok 5 (c' := (60, [(0, .ref 0), (1, .int (nI 0)), (2, .ref 38), (3, .int (nI (sz / 3))), (4, .int (nI i)), (5, .int (nI (3 * i)))], [.int (nI (3 * i)), .ref 39, .ref 0], v)) rfl ?_
      refine x_iaN (S.1 39 (3 * i)) rfl rfl (by decide) (by omega) (by rw [hf 39 (by decide)]) ?_
      refine run_ok 5 (c' := (69, [(0, .ref 0), (1, .int (nI 0)), (2, .ref 38), (3, .int (nI (sz / 3))), (4, .int (nI i)), (5, .int (nI (3 * i)))], [.int ((nI (3 * i)) + (nI 1)), .ref 39, .int (S.1 39 (3 * i)), .ref 0], v)) rfl ?_
      refine x_top (v' := nI ((3 * i) + 1)) (nI_add _ _) ?_
      refine x_iaN (S.1 39 ((3 * i) + 1)) rfl rfl (by decide) (by omega) (by rw [hf 39 (by decide)]) ?_
      refine run_ok 5 (c' := (78, [(0, .ref 0), (1, .int (nI 0)), (2, .ref 38), (3, .int (nI (sz / 3))), (4, .int (nI i)), (5, .int (nI (3 * i)))], [.int ((nI (3 * i)) + (nI 2)), .ref 39, .int (S.1 39 ((3 * i) + 1)), .int (S.1 39 (3 * i)), .ref 0], v)) rfl ?_
      refine x_top (v' := nI ((3 * i) + 2)) (nI_add _ _) ?_
      refine x_iaN (S.1 39 ((3 * i) + 2)) rfl rfl (by decide) (by omega) (by rw [hf 39 (by decide)]) ?_
      rw [show sz / 3 - i = (sz / 3 - (i + 1)) + 1 by omega] at hs
      by_cases hok : okd (S.1 39 (3 * i)) (S.1 39 (3 * i + 1)) (S.1 39 (3 * i + 2)) = true
      · obtain ⟨ok1, ok2, ok3⟩ := of_decide_eq_true hok
        obtain ⟨kd, hkd, e1⟩ := inr_f (by decide) ok1
        obtain ⟨wk, hwk, e2⟩ := inr_f (by decide) ok2
        obtain ⟨bo, hbo, e3⟩ := inr_f (by decide) ok3
        by_cases hne : tne T1 < 8
        · rw [show rdf (S.1 39) (sz / 3 - (i + 1) + 1) i T1 = rdf (S.1 39) (sz / 3 - (i + 1)) (i + 1) (adv T1 (S.1 39 (3 * i)) (S.1 39 (3 * i + 1)) (S.1 39 (3 * i + 2))) from if_pos ⟨hok, hne⟩] at hs
          rw [e1, e2, e3] at hs ⊢
          refine x_callV [.int (nI kd), .int (nI wk), .int (nI bo)] rfl cv_N_event.1 lk_6_142 cv_N_event.2.1 cv_N_event.2.2.1 rfl cv_N_event.2.2.2.1 rfl rfl (Nat.le_of_ble_eq_true rfl) (by decide) cv_N_event.2.2.2.2 (c_eventK v T1 hT1 hk1 kd wk bo hkd hwk hbo hne) ?_
          rintro r z ⟨hr, hTz, hfz, h2z, hKz⟩
          rw [hr]
          clear hr r
          refine x_ifN_ge 88 rfl rfl (by omega) (fun h82 => ?_) (fun hn => absurd (Nat.zero_le _) hn)
          refine run_ok 1 (c' := (91, [(0, .ref 0), (1, .int (nI 0)), (2, .ref 38), (3, .int (nI (sz / 3))), (4, .int (nI i + nI 1)), (5, .int (nI (3 * i)))], [], z)) rfl ?_
          rw [nI_add i 1]
          refine run_ok 1 (c' := (41, [(0, .ref 0), (1, .int (nI 0)), (2, .ref 38), (3, .int (nI (sz / 3))), (4, .int (nI (i + 1))), (5, .int (nI (3 * i)))], [], z)) rfl ?_
          refine x_less [0, 1, 2, 3, 4] rfl ?_
          refine ih z (adv T1 (nI kd) (nI wk) (nI bo)) (by unfold adv; rw [nI_clamp (by omega), nI_clamp (by omega), nI_clamp (by omega)]; exact hTz) (tok_adv hk1 hne hkd hwk hbo) (hf.tr hfz) (h2z.trans h2) (hKz.trans hK) hs
        · rw [show rdf (S.1 39) (sz / 3 - (i + 1) + 1) i T1 = (i, T1) from if_neg (fun z => hne z.2)] at hs
          rw [e1, e2, e3]
          refine x_callV [.int (nI kd), .int (nI wk), .int (nI bo)] rfl cv_N_event.1 lk_6_142 cv_N_event.2.1 cv_N_event.2.2.1 rfl cv_N_event.2.2.2.1 rfl rfl (Nat.le_of_ble_eq_true rfl) (by decide) cv_N_event.2.2.2.2 (c_event_full v T1 hT1 hk1 kd wk bo hkd hwk hbo hne) ?_
          rintro r x ⟨hr, hu⟩
          rw [hr, hu]
          clear hr hu r x
          refine x_if_ge 88 rfl rfl (fun hn => absurd hn (by decide)) (fun h82 => ?_)
          refine run_ok 1 (c' := (87, [(0, .ref 0), (1, .int (nI 0)), (2, .ref 38), (3, .int (nI (sz / 3))), (4, .int (nI i)), (5, .int (nI (3 * i)))], [.int (nI i)], v)) rfl ?_
          refine x_ret (r := some (.int (nI i))) rfl rfl trivial ?_ rfl
          rw [hs]
          exact ⟨rfl, hT1, hk1, hf, h2, hK⟩
      · rw [show rdf (S.1 39) (sz / 3 - (i + 1) + 1) i T1 = (i, T1) from if_neg (fun z => hok z.1)] at hs
        refine x_callV [.int (S.1 39 (3 * i)), .int (S.1 39 ((3 * i) + 1)), .int (S.1 39 ((3 * i) + 2))] rfl cv_N_event.1 lk_6_142 cv_N_event.2.1 cv_N_event.2.2.1 rfl cv_N_event.2.2.2.1 rfl rfl (Nat.le_of_ble_eq_true rfl) (by decide) cv_N_event.2.2.2.2 (c_event_bad v (S.1 39 (3 * i)) (S.1 39 (3 * i + 1)) (S.1 39 (3 * i + 2)) (fun z => hok (decide_eq_true z))) ?_
        rintro r x ⟨hr, hu⟩
        rw [hr, hu]
        clear hr hu r x
        refine x_if_ge 88 rfl rfl (fun hn => absurd hn (by decide)) (fun h82 => ?_)
        refine run_ok 1 (c' := (87, [(0, .ref 0), (1, .int (nI 0)), (2, .ref 38), (3, .int (nI (sz / 3))), (4, .int (nI i)), (5, .int (nI (3 * i)))], [.int (nI i)], v)) rfl ?_
        refine x_ret (r := some (.int (nI i))) rfl rfl trivial ?_ rfl
        rw [hs]
        exact ⟨rfl, hT1, hk1, hf, h2, hK⟩
  refine run_ok 2 (c' := (2, [(0, .ref 0), (1, .int (nI 0))], [.int (nI 4), .int (nI 0)], S)) rfl ?_
  refine x_callS [.int (nI 0), .int (nI 4)] rfl cs_N_isBelow.1 lk_6_73 cs_N_isBelow.2.1 rfl rfl (Nat.le_of_ble_eq_true rfl) (by decide) cs_N_isBelow.2.2 (c_isBelow S (nI 0) (nI 4)) ?_
  rintro r u ⟨hr, hu⟩
  rw [hr, hu]
  clear hr hu r u
  refine x_ifB_ne 11 rfl rfl (fun h5 => ?_) (fun hn => absurd (inr_t (by decide) (by decide)) hn)
  refine run_ok 3 (c' := (16, [(0, .ref 0), (1, .int (nI 0))], [.int (nI 0), .ref 37], S)) rfl ?_
  refine x_aald (t := 38) rfl rfl (vp_in_nI (by decide) (by decide)) (by decide) ?_
  refine run_ok 3 (c' := (22, [(0, .ref 0), (1, .int (nI 0)), (2, .ref 38)], [.int (S.1 38 3)], S)) rfl ?_
  refine x_top (v' := nI lo) g3 ?_
  refine x_ifN_eq 31 rfl rfl (by omega) (fun h22 => ?_) (fun hn => absurd hlo0 hn)
  refine run_ok 2 (c' := (35, [(0, .ref 0), (1, .int (nI 0)), (2, .ref 38)], [.int (S.1 38 2)], S)) rfl ?_
  refine x_top (v' := nI sz) g2 ?_
  refine run_ok 1 (c' := (36, [(0, .ref 0), (1, .int (nI 0)), (2, .ref 38)], [.int (nI 3), .int (nI sz)], S)) rfl ?_
  refine x_idiv rfl (by decide) ?_
  refine x_top (v' := nI (sz / 3)) (pk_div (by omega) (by omega) (by omega)) ?_
  refine run_ok 3 (c' := (41, [(0, .ref 0), (1, .int (nI 0)), (2, .ref 38), (3, .int (nI (sz / 3))), (4, .int (nI 0))], [], S)) rfl ?_
  exact H 0 (Nat.zero_le _) S T hT hto fr.rf rfl rfl rfl

set_option maxHeartbeats 2000000 in
theorem c_readK1 (S : ST) (T : TD) (hT : TR 5 T S) (hto : tok T) (lo fm sz : Nat) (hH : HR 40 lo fm sz S) (hlo0 : lo = 0) : EX me_N_read 2 [.ref 0, .int (nI 1)] S (fun r u => r = some (.int (nI (rdf (S.1 41) (sz / 3) 0 T).1)) ∧ TR 5 (rdf (S.1 41) (sz / 3) 0 T).2 u ∧ tok (rdf (S.1 41) (sz / 3) 0 T).2 ∧ fr [5, 11, 12, 13] S u ∧ u.2 = S.2 ∧ u.1 5 1 = S.1 5 1) := by
  refine EX.of mok_N_read (Nat.le_of_ble_eq_true rfl) ?_
  obtain ⟨g3, g1, g2, hl1, hf2, hs60⟩ := id hH
  have H : ∀ i, i ≤ sz / 3 → ∀ (v : ST) (T1 : TD), TR 5 T1 v → tok T1 → fr [5, 11, 12, 13] S v → v.2 = S.2 → v.1 5 1 = S.1 5 1 → rdf (S.1 41) (sz / 3) 0 T = rdf (S.1 41) (sz / 3 - i) i T1 → BX me_N_read 2 none (fun r u => r = some (.int (nI (rdf (S.1 41) (sz / 3) 0 T).1)) ∧ TR 5 (rdf (S.1 41) (sz / 3) 0 T).2 u ∧ tok (rdf (S.1 41) (sz / 3) 0 T).2 ∧ fr [5, 11, 12, 13] S u ∧ u.2 = S.2 ∧ u.1 5 1 = S.1 5 1) (41, [(0, .ref 0), (1, .int (nI 1)), (2, .ref 40), (3, .int (nI (sz / 3))), (4, .int (nI i))], [], v) := by
    refine loop_up (P := fun i => ∀ (v : ST) (T1 : TD), TR 5 T1 v → tok T1 → fr [5, 11, 12, 13] S v → v.2 = S.2 → v.1 5 1 = S.1 5 1 → rdf (S.1 41) (sz / 3) 0 T = rdf (S.1 41) (sz / 3 - i) i T1 → BX me_N_read 2 none (fun r u => r = some (.int (nI (rdf (S.1 41) (sz / 3) 0 T).1)) ∧ TR 5 (rdf (S.1 41) (sz / 3) 0 T).2 u ∧ tok (rdf (S.1 41) (sz / 3) 0 T).2 ∧ fr [5, 11, 12, 13] S u ∧ u.2 = S.2 ∧ u.1 5 1 = S.1 5 1) (41, [(0, .ref 0), (1, .int (nI 1)), (2, .ref 40), (3, .int (nI (sz / 3))), (4, .int (nI i))], [], v)) (sz / 3) ?_ ?_
    · intro v T1 hT1 hk1 hf h2 hK hs
      refine run_ok 2 (c' := (44, [(0, .ref 0), (1, .int (nI 1)), (2, .ref 40), (3, .int (nI (sz / 3))), (4, .int (nI (sz / 3)))], [.int (nI (sz / 3)), .int (nI (sz / 3))], v)) rfl ?_
      refine x_icmpN_ge 94 rfl rfl (by omega) (by omega) (fun h44 => ?_) (fun hn => absurd (Nat.le_refl _) hn)
      refine run_ok 1 (c' := (95, [(0, .ref 0), (1, .int (nI 1)), (2, .ref 40), (3, .int (nI (sz / 3))), (4, .int (nI (sz / 3)))], [.int (nI (sz / 3))], v)) rfl ?_
      refine x_ret (r := some (.int (nI (sz / 3)))) rfl rfl trivial ?_ rfl
      rw [Nat.sub_self] at hs
      rw [hs]
      exact ⟨rfl, hT1, hk1, hf, h2, hK⟩
    · intro i hi ih v T1 hT1 hk1 hf h2 hK hs
      refine run_ok 2 (c' := (44, [(0, .ref 0), (1, .int (nI 1)), (2, .ref 40), (3, .int (nI (sz / 3))), (4, .int (nI i))], [.int (nI (sz / 3)), .int (nI i)], v)) rfl ?_
      refine x_icmpN_ge 94 rfl rfl (by omega) (by omega) (fun hn => absurd hn (show ¬ sz / 3 ≤ i by omega)) (fun h44 => ?_)
      refine run_ok 3 (c' := (51, [(0, .ref 0), (1, .int (nI 1)), (2, .ref 40), (3, .int (nI (sz / 3))), (4, .int (nI i))], [.int ((nI 3) * (nI i))], v)) rfl ?_
      refine x_top (v' := nI (3 * i)) (pk_mul _ _) ?_
      refine run_ok 5 (c' := (60, [(0, .ref 0), (1, .int (nI 1)), (2, .ref 40), (3, .int (nI (sz / 3))), (4, .int (nI i)), (5, .int (nI (3 * i)))], [.int (nI (3 * i)), .ref 41, .ref 0], v)) rfl ?_
      refine x_iaN (S.1 41 (3 * i)) rfl rfl (by decide) (by omega) (by rw [hf 41 (by decide)]) ?_
      refine run_ok 5 (c' := (69, [(0, .ref 0), (1, .int (nI 1)), (2, .ref 40), (3, .int (nI (sz / 3))), (4, .int (nI i)), (5, .int (nI (3 * i)))], [.int ((nI (3 * i)) + (nI 1)), .ref 41, .int (S.1 41 (3 * i)), .ref 0], v)) rfl ?_
      refine x_top (v' := nI ((3 * i) + 1)) (nI_add _ _) ?_
      refine x_iaN (S.1 41 ((3 * i) + 1)) rfl rfl (by decide) (by omega) (by rw [hf 41 (by decide)]) ?_
      refine run_ok 5 (c' := (78, [(0, .ref 0), (1, .int (nI 1)), (2, .ref 40), (3, .int (nI (sz / 3))), (4, .int (nI i)), (5, .int (nI (3 * i)))], [.int ((nI (3 * i)) + (nI 2)), .ref 41, .int (S.1 41 ((3 * i) + 1)), .int (S.1 41 (3 * i)), .ref 0], v)) rfl ?_
      refine x_top (v' := nI ((3 * i) + 2)) (nI_add _ _) ?_
      refine x_iaN (S.1 41 ((3 * i) + 2)) rfl rfl (by decide) (by omega) (by rw [hf 41 (by decide)]) ?_
      rw [show sz / 3 - i = (sz / 3 - (i + 1)) + 1 by omega] at hs
      by_cases hok : okd (S.1 41 (3 * i)) (S.1 41 (3 * i + 1)) (S.1 41 (3 * i + 2)) = true
      · obtain ⟨ok1, ok2, ok3⟩ := of_decide_eq_true hok
        obtain ⟨kd, hkd, e1⟩ := inr_f (by decide) ok1
        obtain ⟨wk, hwk, e2⟩ := inr_f (by decide) ok2
        obtain ⟨bo, hbo, e3⟩ := inr_f (by decide) ok3
        by_cases hne : tne T1 < 8
        · rw [show rdf (S.1 41) (sz / 3 - (i + 1) + 1) i T1 = rdf (S.1 41) (sz / 3 - (i + 1)) (i + 1) (adv T1 (S.1 41 (3 * i)) (S.1 41 (3 * i + 1)) (S.1 41 (3 * i + 2))) from if_pos ⟨hok, hne⟩] at hs
          rw [e1, e2, e3] at hs ⊢
          refine x_callV [.int (nI kd), .int (nI wk), .int (nI bo)] rfl cv_N_event.1 lk_6_142 cv_N_event.2.1 cv_N_event.2.2.1 rfl cv_N_event.2.2.2.1 rfl rfl (Nat.le_of_ble_eq_true rfl) (by decide) cv_N_event.2.2.2.2 (c_eventK v T1 hT1 hk1 kd wk bo hkd hwk hbo hne) ?_
          rintro r z ⟨hr, hTz, hfz, h2z, hKz⟩
          rw [hr]
          clear hr r
          refine x_ifN_ge 88 rfl rfl (by omega) (fun h82 => ?_) (fun hn => absurd (Nat.zero_le _) hn)
          refine run_ok 1 (c' := (91, [(0, .ref 0), (1, .int (nI 1)), (2, .ref 40), (3, .int (nI (sz / 3))), (4, .int (nI i + nI 1)), (5, .int (nI (3 * i)))], [], z)) rfl ?_
          rw [nI_add i 1]
          refine run_ok 1 (c' := (41, [(0, .ref 0), (1, .int (nI 1)), (2, .ref 40), (3, .int (nI (sz / 3))), (4, .int (nI (i + 1))), (5, .int (nI (3 * i)))], [], z)) rfl ?_
          refine x_less [0, 1, 2, 3, 4] rfl ?_
          refine ih z (adv T1 (nI kd) (nI wk) (nI bo)) (by unfold adv; rw [nI_clamp (by omega), nI_clamp (by omega), nI_clamp (by omega)]; exact hTz) (tok_adv hk1 hne hkd hwk hbo) (hf.tr hfz) (h2z.trans h2) (hKz.trans hK) hs
        · rw [show rdf (S.1 41) (sz / 3 - (i + 1) + 1) i T1 = (i, T1) from if_neg (fun z => hne z.2)] at hs
          rw [e1, e2, e3]
          refine x_callV [.int (nI kd), .int (nI wk), .int (nI bo)] rfl cv_N_event.1 lk_6_142 cv_N_event.2.1 cv_N_event.2.2.1 rfl cv_N_event.2.2.2.1 rfl rfl (Nat.le_of_ble_eq_true rfl) (by decide) cv_N_event.2.2.2.2 (c_event_full v T1 hT1 hk1 kd wk bo hkd hwk hbo hne) ?_
          rintro r x ⟨hr, hu⟩
          rw [hr, hu]
          clear hr hu r x
          refine x_if_ge 88 rfl rfl (fun hn => absurd hn (by decide)) (fun h82 => ?_)
          refine run_ok 1 (c' := (87, [(0, .ref 0), (1, .int (nI 1)), (2, .ref 40), (3, .int (nI (sz / 3))), (4, .int (nI i)), (5, .int (nI (3 * i)))], [.int (nI i)], v)) rfl ?_
          refine x_ret (r := some (.int (nI i))) rfl rfl trivial ?_ rfl
          rw [hs]
          exact ⟨rfl, hT1, hk1, hf, h2, hK⟩
      · rw [show rdf (S.1 41) (sz / 3 - (i + 1) + 1) i T1 = (i, T1) from if_neg (fun z => hok z.1)] at hs
        refine x_callV [.int (S.1 41 (3 * i)), .int (S.1 41 ((3 * i) + 1)), .int (S.1 41 ((3 * i) + 2))] rfl cv_N_event.1 lk_6_142 cv_N_event.2.1 cv_N_event.2.2.1 rfl cv_N_event.2.2.2.1 rfl rfl (Nat.le_of_ble_eq_true rfl) (by decide) cv_N_event.2.2.2.2 (c_event_bad v (S.1 41 (3 * i)) (S.1 41 (3 * i + 1)) (S.1 41 (3 * i + 2)) (fun z => hok (decide_eq_true z))) ?_
        rintro r x ⟨hr, hu⟩
        rw [hr, hu]
        clear hr hu r x
        refine x_if_ge 88 rfl rfl (fun hn => absurd hn (by decide)) (fun h82 => ?_)
        refine run_ok 1 (c' := (87, [(0, .ref 0), (1, .int (nI 1)), (2, .ref 40), (3, .int (nI (sz / 3))), (4, .int (nI i)), (5, .int (nI (3 * i)))], [.int (nI i)], v)) rfl ?_
        refine x_ret (r := some (.int (nI i))) rfl rfl trivial ?_ rfl
        rw [hs]
        exact ⟨rfl, hT1, hk1, hf, h2, hK⟩
  refine run_ok 2 (c' := (2, [(0, .ref 0), (1, .int (nI 1))], [.int (nI 4), .int (nI 1)], S)) rfl ?_
  refine x_callS [.int (nI 1), .int (nI 4)] rfl cs_N_isBelow.1 lk_6_73 cs_N_isBelow.2.1 rfl rfl (Nat.le_of_ble_eq_true rfl) (by decide) cs_N_isBelow.2.2 (c_isBelow S (nI 1) (nI 4)) ?_
  rintro r u ⟨hr, hu⟩
  rw [hr, hu]
  clear hr hu r u
  refine x_ifB_ne 11 rfl rfl (fun h5 => ?_) (fun hn => absurd (inr_t (by decide) (by decide)) hn)
  refine run_ok 3 (c' := (16, [(0, .ref 0), (1, .int (nI 1))], [.int (nI 1), .ref 37], S)) rfl ?_
  refine x_aald (t := 40) rfl rfl (vp_in_nI (by decide) (by decide)) (by decide) ?_
  refine run_ok 3 (c' := (22, [(0, .ref 0), (1, .int (nI 1)), (2, .ref 40)], [.int (S.1 40 3)], S)) rfl ?_
  refine x_top (v' := nI lo) g3 ?_
  refine x_ifN_eq 31 rfl rfl (by omega) (fun h22 => ?_) (fun hn => absurd hlo0 hn)
  refine run_ok 2 (c' := (35, [(0, .ref 0), (1, .int (nI 1)), (2, .ref 40)], [.int (S.1 40 2)], S)) rfl ?_
  refine x_top (v' := nI sz) g2 ?_
  refine run_ok 1 (c' := (36, [(0, .ref 0), (1, .int (nI 1)), (2, .ref 40)], [.int (nI 3), .int (nI sz)], S)) rfl ?_
  refine x_idiv rfl (by decide) ?_
  refine x_top (v' := nI (sz / 3)) (pk_div (by omega) (by omega) (by omega)) ?_
  refine run_ok 3 (c' := (41, [(0, .ref 0), (1, .int (nI 1)), (2, .ref 40), (3, .int (nI (sz / 3))), (4, .int (nI 0))], [], S)) rfl ?_
  exact H 0 (Nat.zero_le _) S T hT hto fr.rf rfl rfl rfl

set_option maxHeartbeats 2000000 in
theorem c_readK2 (S : ST) (T : TD) (hT : TR 5 T S) (hto : tok T) (lo fm sz : Nat) (hH : HR 42 lo fm sz S) (hlo0 : lo = 0) : EX me_N_read 2 [.ref 0, .int (nI 2)] S (fun r u => r = some (.int (nI (rdf (S.1 43) (sz / 3) 0 T).1)) ∧ TR 5 (rdf (S.1 43) (sz / 3) 0 T).2 u ∧ tok (rdf (S.1 43) (sz / 3) 0 T).2 ∧ fr [5, 11, 12, 13] S u ∧ u.2 = S.2 ∧ u.1 5 1 = S.1 5 1) := by
  refine EX.of mok_N_read (Nat.le_of_ble_eq_true rfl) ?_
  obtain ⟨g3, g1, g2, hl1, hf2, hs60⟩ := id hH
  have H : ∀ i, i ≤ sz / 3 → ∀ (v : ST) (T1 : TD), TR 5 T1 v → tok T1 → fr [5, 11, 12, 13] S v → v.2 = S.2 → v.1 5 1 = S.1 5 1 → rdf (S.1 43) (sz / 3) 0 T = rdf (S.1 43) (sz / 3 - i) i T1 → BX me_N_read 2 none (fun r u => r = some (.int (nI (rdf (S.1 43) (sz / 3) 0 T).1)) ∧ TR 5 (rdf (S.1 43) (sz / 3) 0 T).2 u ∧ tok (rdf (S.1 43) (sz / 3) 0 T).2 ∧ fr [5, 11, 12, 13] S u ∧ u.2 = S.2 ∧ u.1 5 1 = S.1 5 1) (41, [(0, .ref 0), (1, .int (nI 2)), (2, .ref 42), (3, .int (nI (sz / 3))), (4, .int (nI i))], [], v) := by
    refine loop_up (P := fun i => ∀ (v : ST) (T1 : TD), TR 5 T1 v → tok T1 → fr [5, 11, 12, 13] S v → v.2 = S.2 → v.1 5 1 = S.1 5 1 → rdf (S.1 43) (sz / 3) 0 T = rdf (S.1 43) (sz / 3 - i) i T1 → BX me_N_read 2 none (fun r u => r = some (.int (nI (rdf (S.1 43) (sz / 3) 0 T).1)) ∧ TR 5 (rdf (S.1 43) (sz / 3) 0 T).2 u ∧ tok (rdf (S.1 43) (sz / 3) 0 T).2 ∧ fr [5, 11, 12, 13] S u ∧ u.2 = S.2 ∧ u.1 5 1 = S.1 5 1) (41, [(0, .ref 0), (1, .int (nI 2)), (2, .ref 42), (3, .int (nI (sz / 3))), (4, .int (nI i))], [], v)) (sz / 3) ?_ ?_
    · intro v T1 hT1 hk1 hf h2 hK hs
      refine run_ok 2 (c' := (44, [(0, .ref 0), (1, .int (nI 2)), (2, .ref 42), (3, .int (nI (sz / 3))), (4, .int (nI (sz / 3)))], [.int (nI (sz / 3)), .int (nI (sz / 3))], v)) rfl ?_
      refine x_icmpN_ge 94 rfl rfl (by omega) (by omega) (fun h44 => ?_) (fun hn => absurd (Nat.le_refl _) hn)
      refine run_ok 1 (c' := (95, [(0, .ref 0), (1, .int (nI 2)), (2, .ref 42), (3, .int (nI (sz / 3))), (4, .int (nI (sz / 3)))], [.int (nI (sz / 3))], v)) rfl ?_
      refine x_ret (r := some (.int (nI (sz / 3)))) rfl rfl trivial ?_ rfl
      rw [Nat.sub_self] at hs
      rw [hs]
      exact ⟨rfl, hT1, hk1, hf, h2, hK⟩
    · intro i hi ih v T1 hT1 hk1 hf h2 hK hs
      refine run_ok 2 (c' := (44, [(0, .ref 0), (1, .int (nI 2)), (2, .ref 42), (3, .int (nI (sz / 3))), (4, .int (nI i))], [.int (nI (sz / 3)), .int (nI i)], v)) rfl ?_
      refine x_icmpN_ge 94 rfl rfl (by omega) (by omega) (fun hn => absurd hn (show ¬ sz / 3 ≤ i by omega)) (fun h44 => ?_)
      refine run_ok 3 (c' := (51, [(0, .ref 0), (1, .int (nI 2)), (2, .ref 42), (3, .int (nI (sz / 3))), (4, .int (nI i))], [.int ((nI 3) * (nI i))], v)) rfl ?_
      refine x_top (v' := nI (3 * i)) (pk_mul _ _) ?_
      refine run_ok 5 (c' := (60, [(0, .ref 0), (1, .int (nI 2)), (2, .ref 42), (3, .int (nI (sz / 3))), (4, .int (nI i)), (5, .int (nI (3 * i)))], [.int (nI (3 * i)), .ref 43, .ref 0], v)) rfl ?_
      refine x_iaN (S.1 43 (3 * i)) rfl rfl (by decide) (by omega) (by rw [hf 43 (by decide)]) ?_
      refine run_ok 5 (c' := (69, [(0, .ref 0), (1, .int (nI 2)), (2, .ref 42), (3, .int (nI (sz / 3))), (4, .int (nI i)), (5, .int (nI (3 * i)))], [.int ((nI (3 * i)) + (nI 1)), .ref 43, .int (S.1 43 (3 * i)), .ref 0], v)) rfl ?_
      refine x_top (v' := nI ((3 * i) + 1)) (nI_add _ _) ?_
      refine x_iaN (S.1 43 ((3 * i) + 1)) rfl rfl (by decide) (by omega) (by rw [hf 43 (by decide)]) ?_
      refine run_ok 5 (c' := (78, [(0, .ref 0), (1, .int (nI 2)), (2, .ref 42), (3, .int (nI (sz / 3))), (4, .int (nI i)), (5, .int (nI (3 * i)))], [.int ((nI (3 * i)) + (nI 2)), .ref 43, .int (S.1 43 ((3 * i) + 1)), .int (S.1 43 (3 * i)), .ref 0], v)) rfl ?_
      refine x_top (v' := nI ((3 * i) + 2)) (nI_add _ _) ?_
      refine x_iaN (S.1 43 ((3 * i) + 2)) rfl rfl (by decide) (by omega) (by rw [hf 43 (by decide)]) ?_
      rw [show sz / 3 - i = (sz / 3 - (i + 1)) + 1 by omega] at hs
      by_cases hok : okd (S.1 43 (3 * i)) (S.1 43 (3 * i + 1)) (S.1 43 (3 * i + 2)) = true
      · obtain ⟨ok1, ok2, ok3⟩ := of_decide_eq_true hok
        obtain ⟨kd, hkd, e1⟩ := inr_f (by decide) ok1
        obtain ⟨wk, hwk, e2⟩ := inr_f (by decide) ok2
        obtain ⟨bo, hbo, e3⟩ := inr_f (by decide) ok3
        by_cases hne : tne T1 < 8
        · rw [show rdf (S.1 43) (sz / 3 - (i + 1) + 1) i T1 = rdf (S.1 43) (sz / 3 - (i + 1)) (i + 1) (adv T1 (S.1 43 (3 * i)) (S.1 43 (3 * i + 1)) (S.1 43 (3 * i + 2))) from if_pos ⟨hok, hne⟩] at hs
          rw [e1, e2, e3] at hs ⊢
          refine x_callV [.int (nI kd), .int (nI wk), .int (nI bo)] rfl cv_N_event.1 lk_6_142 cv_N_event.2.1 cv_N_event.2.2.1 rfl cv_N_event.2.2.2.1 rfl rfl (Nat.le_of_ble_eq_true rfl) (by decide) cv_N_event.2.2.2.2 (c_eventK v T1 hT1 hk1 kd wk bo hkd hwk hbo hne) ?_
          rintro r z ⟨hr, hTz, hfz, h2z, hKz⟩
          rw [hr]
          clear hr r
          refine x_ifN_ge 88 rfl rfl (by omega) (fun h82 => ?_) (fun hn => absurd (Nat.zero_le _) hn)
          refine run_ok 1 (c' := (91, [(0, .ref 0), (1, .int (nI 2)), (2, .ref 42), (3, .int (nI (sz / 3))), (4, .int (nI i + nI 1)), (5, .int (nI (3 * i)))], [], z)) rfl ?_
          rw [nI_add i 1]
          refine run_ok 1 (c' := (41, [(0, .ref 0), (1, .int (nI 2)), (2, .ref 42), (3, .int (nI (sz / 3))), (4, .int (nI (i + 1))), (5, .int (nI (3 * i)))], [], z)) rfl ?_
          refine x_less [0, 1, 2, 3, 4] rfl ?_
          refine ih z (adv T1 (nI kd) (nI wk) (nI bo)) (by unfold adv; rw [nI_clamp (by omega), nI_clamp (by omega), nI_clamp (by omega)]; exact hTz) (tok_adv hk1 hne hkd hwk hbo) (hf.tr hfz) (h2z.trans h2) (hKz.trans hK) hs
        · rw [show rdf (S.1 43) (sz / 3 - (i + 1) + 1) i T1 = (i, T1) from if_neg (fun z => hne z.2)] at hs
          rw [e1, e2, e3]
          refine x_callV [.int (nI kd), .int (nI wk), .int (nI bo)] rfl cv_N_event.1 lk_6_142 cv_N_event.2.1 cv_N_event.2.2.1 rfl cv_N_event.2.2.2.1 rfl rfl (Nat.le_of_ble_eq_true rfl) (by decide) cv_N_event.2.2.2.2 (c_event_full v T1 hT1 hk1 kd wk bo hkd hwk hbo hne) ?_
          rintro r x ⟨hr, hu⟩
          rw [hr, hu]
          clear hr hu r x
          refine x_if_ge 88 rfl rfl (fun hn => absurd hn (by decide)) (fun h82 => ?_)
          refine run_ok 1 (c' := (87, [(0, .ref 0), (1, .int (nI 2)), (2, .ref 42), (3, .int (nI (sz / 3))), (4, .int (nI i)), (5, .int (nI (3 * i)))], [.int (nI i)], v)) rfl ?_
          refine x_ret (r := some (.int (nI i))) rfl rfl trivial ?_ rfl
          rw [hs]
          exact ⟨rfl, hT1, hk1, hf, h2, hK⟩
      · rw [show rdf (S.1 43) (sz / 3 - (i + 1) + 1) i T1 = (i, T1) from if_neg (fun z => hok z.1)] at hs
        refine x_callV [.int (S.1 43 (3 * i)), .int (S.1 43 ((3 * i) + 1)), .int (S.1 43 ((3 * i) + 2))] rfl cv_N_event.1 lk_6_142 cv_N_event.2.1 cv_N_event.2.2.1 rfl cv_N_event.2.2.2.1 rfl rfl (Nat.le_of_ble_eq_true rfl) (by decide) cv_N_event.2.2.2.2 (c_event_bad v (S.1 43 (3 * i)) (S.1 43 (3 * i + 1)) (S.1 43 (3 * i + 2)) (fun z => hok (decide_eq_true z))) ?_
        rintro r x ⟨hr, hu⟩
        rw [hr, hu]
        clear hr hu r x
        refine x_if_ge 88 rfl rfl (fun hn => absurd hn (by decide)) (fun h82 => ?_)
        refine run_ok 1 (c' := (87, [(0, .ref 0), (1, .int (nI 2)), (2, .ref 42), (3, .int (nI (sz / 3))), (4, .int (nI i)), (5, .int (nI (3 * i)))], [.int (nI i)], v)) rfl ?_
        refine x_ret (r := some (.int (nI i))) rfl rfl trivial ?_ rfl
        rw [hs]
        exact ⟨rfl, hT1, hk1, hf, h2, hK⟩
  refine run_ok 2 (c' := (2, [(0, .ref 0), (1, .int (nI 2))], [.int (nI 4), .int (nI 2)], S)) rfl ?_
  refine x_callS [.int (nI 2), .int (nI 4)] rfl cs_N_isBelow.1 lk_6_73 cs_N_isBelow.2.1 rfl rfl (Nat.le_of_ble_eq_true rfl) (by decide) cs_N_isBelow.2.2 (c_isBelow S (nI 2) (nI 4)) ?_
  rintro r u ⟨hr, hu⟩
  rw [hr, hu]
  clear hr hu r u
  refine x_ifB_ne 11 rfl rfl (fun h5 => ?_) (fun hn => absurd (inr_t (by decide) (by decide)) hn)
  refine run_ok 3 (c' := (16, [(0, .ref 0), (1, .int (nI 2))], [.int (nI 2), .ref 37], S)) rfl ?_
  refine x_aald (t := 42) rfl rfl (vp_in_nI (by decide) (by decide)) (by decide) ?_
  refine run_ok 3 (c' := (22, [(0, .ref 0), (1, .int (nI 2)), (2, .ref 42)], [.int (S.1 42 3)], S)) rfl ?_
  refine x_top (v' := nI lo) g3 ?_
  refine x_ifN_eq 31 rfl rfl (by omega) (fun h22 => ?_) (fun hn => absurd hlo0 hn)
  refine run_ok 2 (c' := (35, [(0, .ref 0), (1, .int (nI 2)), (2, .ref 42)], [.int (S.1 42 2)], S)) rfl ?_
  refine x_top (v' := nI sz) g2 ?_
  refine run_ok 1 (c' := (36, [(0, .ref 0), (1, .int (nI 2)), (2, .ref 42)], [.int (nI 3), .int (nI sz)], S)) rfl ?_
  refine x_idiv rfl (by decide) ?_
  refine x_top (v' := nI (sz / 3)) (pk_div (by omega) (by omega) (by omega)) ?_
  refine run_ok 3 (c' := (41, [(0, .ref 0), (1, .int (nI 2)), (2, .ref 42), (3, .int (nI (sz / 3))), (4, .int (nI 0))], [], S)) rfl ?_
  exact H 0 (Nat.zero_le _) S T hT hto fr.rf rfl rfl rfl

set_option maxHeartbeats 2000000 in
theorem c_readK3 (S : ST) (T : TD) (hT : TR 5 T S) (hto : tok T) (lo fm sz : Nat) (hH : HR 44 lo fm sz S) (hlo0 : lo = 0) : EX me_N_read 2 [.ref 0, .int (nI 3)] S (fun r u => r = some (.int (nI (rdf (S.1 45) (sz / 3) 0 T).1)) ∧ TR 5 (rdf (S.1 45) (sz / 3) 0 T).2 u ∧ tok (rdf (S.1 45) (sz / 3) 0 T).2 ∧ fr [5, 11, 12, 13] S u ∧ u.2 = S.2 ∧ u.1 5 1 = S.1 5 1) := by
  refine EX.of mok_N_read (Nat.le_of_ble_eq_true rfl) ?_
  obtain ⟨g3, g1, g2, hl1, hf2, hs60⟩ := id hH
  have H : ∀ i, i ≤ sz / 3 → ∀ (v : ST) (T1 : TD), TR 5 T1 v → tok T1 → fr [5, 11, 12, 13] S v → v.2 = S.2 → v.1 5 1 = S.1 5 1 → rdf (S.1 45) (sz / 3) 0 T = rdf (S.1 45) (sz / 3 - i) i T1 → BX me_N_read 2 none (fun r u => r = some (.int (nI (rdf (S.1 45) (sz / 3) 0 T).1)) ∧ TR 5 (rdf (S.1 45) (sz / 3) 0 T).2 u ∧ tok (rdf (S.1 45) (sz / 3) 0 T).2 ∧ fr [5, 11, 12, 13] S u ∧ u.2 = S.2 ∧ u.1 5 1 = S.1 5 1) (41, [(0, .ref 0), (1, .int (nI 3)), (2, .ref 44), (3, .int (nI (sz / 3))), (4, .int (nI i))], [], v) := by
    refine loop_up (P := fun i => ∀ (v : ST) (T1 : TD), TR 5 T1 v → tok T1 → fr [5, 11, 12, 13] S v → v.2 = S.2 → v.1 5 1 = S.1 5 1 → rdf (S.1 45) (sz / 3) 0 T = rdf (S.1 45) (sz / 3 - i) i T1 → BX me_N_read 2 none (fun r u => r = some (.int (nI (rdf (S.1 45) (sz / 3) 0 T).1)) ∧ TR 5 (rdf (S.1 45) (sz / 3) 0 T).2 u ∧ tok (rdf (S.1 45) (sz / 3) 0 T).2 ∧ fr [5, 11, 12, 13] S u ∧ u.2 = S.2 ∧ u.1 5 1 = S.1 5 1) (41, [(0, .ref 0), (1, .int (nI 3)), (2, .ref 44), (3, .int (nI (sz / 3))), (4, .int (nI i))], [], v)) (sz / 3) ?_ ?_
    · intro v T1 hT1 hk1 hf h2 hK hs
      refine run_ok 2 (c' := (44, [(0, .ref 0), (1, .int (nI 3)), (2, .ref 44), (3, .int (nI (sz / 3))), (4, .int (nI (sz / 3)))], [.int (nI (sz / 3)), .int (nI (sz / 3))], v)) rfl ?_
      refine x_icmpN_ge 94 rfl rfl (by omega) (by omega) (fun h44 => ?_) (fun hn => absurd (Nat.le_refl _) hn)
      refine run_ok 1 (c' := (95, [(0, .ref 0), (1, .int (nI 3)), (2, .ref 44), (3, .int (nI (sz / 3))), (4, .int (nI (sz / 3)))], [.int (nI (sz / 3))], v)) rfl ?_
      refine x_ret (r := some (.int (nI (sz / 3)))) rfl rfl trivial ?_ rfl
      rw [Nat.sub_self] at hs
      rw [hs]
      exact ⟨rfl, hT1, hk1, hf, h2, hK⟩
    · intro i hi ih v T1 hT1 hk1 hf h2 hK hs
      refine run_ok 2 (c' := (44, [(0, .ref 0), (1, .int (nI 3)), (2, .ref 44), (3, .int (nI (sz / 3))), (4, .int (nI i))], [.int (nI (sz / 3)), .int (nI i)], v)) rfl ?_
      refine x_icmpN_ge 94 rfl rfl (by omega) (by omega) (fun hn => absurd hn (show ¬ sz / 3 ≤ i by omega)) (fun h44 => ?_)
      refine run_ok 3 (c' := (51, [(0, .ref 0), (1, .int (nI 3)), (2, .ref 44), (3, .int (nI (sz / 3))), (4, .int (nI i))], [.int ((nI 3) * (nI i))], v)) rfl ?_
      refine x_top (v' := nI (3 * i)) (pk_mul _ _) ?_
      refine run_ok 5 (c' := (60, [(0, .ref 0), (1, .int (nI 3)), (2, .ref 44), (3, .int (nI (sz / 3))), (4, .int (nI i)), (5, .int (nI (3 * i)))], [.int (nI (3 * i)), .ref 45, .ref 0], v)) rfl ?_
      refine x_iaN (S.1 45 (3 * i)) rfl rfl (by decide) (by omega) (by rw [hf 45 (by decide)]) ?_
      refine run_ok 5 (c' := (69, [(0, .ref 0), (1, .int (nI 3)), (2, .ref 44), (3, .int (nI (sz / 3))), (4, .int (nI i)), (5, .int (nI (3 * i)))], [.int ((nI (3 * i)) + (nI 1)), .ref 45, .int (S.1 45 (3 * i)), .ref 0], v)) rfl ?_
      refine x_top (v' := nI ((3 * i) + 1)) (nI_add _ _) ?_
      refine x_iaN (S.1 45 ((3 * i) + 1)) rfl rfl (by decide) (by omega) (by rw [hf 45 (by decide)]) ?_
      refine run_ok 5 (c' := (78, [(0, .ref 0), (1, .int (nI 3)), (2, .ref 44), (3, .int (nI (sz / 3))), (4, .int (nI i)), (5, .int (nI (3 * i)))], [.int ((nI (3 * i)) + (nI 2)), .ref 45, .int (S.1 45 ((3 * i) + 1)), .int (S.1 45 (3 * i)), .ref 0], v)) rfl ?_
      refine x_top (v' := nI ((3 * i) + 2)) (nI_add _ _) ?_
      refine x_iaN (S.1 45 ((3 * i) + 2)) rfl rfl (by decide) (by omega) (by rw [hf 45 (by decide)]) ?_
      rw [show sz / 3 - i = (sz / 3 - (i + 1)) + 1 by omega] at hs
      by_cases hok : okd (S.1 45 (3 * i)) (S.1 45 (3 * i + 1)) (S.1 45 (3 * i + 2)) = true
      · obtain ⟨ok1, ok2, ok3⟩ := of_decide_eq_true hok
        obtain ⟨kd, hkd, e1⟩ := inr_f (by decide) ok1
        obtain ⟨wk, hwk, e2⟩ := inr_f (by decide) ok2
        obtain ⟨bo, hbo, e3⟩ := inr_f (by decide) ok3
        by_cases hne : tne T1 < 8
        · rw [show rdf (S.1 45) (sz / 3 - (i + 1) + 1) i T1 = rdf (S.1 45) (sz / 3 - (i + 1)) (i + 1) (adv T1 (S.1 45 (3 * i)) (S.1 45 (3 * i + 1)) (S.1 45 (3 * i + 2))) from if_pos ⟨hok, hne⟩] at hs
          rw [e1, e2, e3] at hs ⊢
          refine x_callV [.int (nI kd), .int (nI wk), .int (nI bo)] rfl cv_N_event.1 lk_6_142 cv_N_event.2.1 cv_N_event.2.2.1 rfl cv_N_event.2.2.2.1 rfl rfl (Nat.le_of_ble_eq_true rfl) (by decide) cv_N_event.2.2.2.2 (c_eventK v T1 hT1 hk1 kd wk bo hkd hwk hbo hne) ?_
          rintro r z ⟨hr, hTz, hfz, h2z, hKz⟩
          rw [hr]
          clear hr r
          refine x_ifN_ge 88 rfl rfl (by omega) (fun h82 => ?_) (fun hn => absurd (Nat.zero_le _) hn)
          refine run_ok 1 (c' := (91, [(0, .ref 0), (1, .int (nI 3)), (2, .ref 44), (3, .int (nI (sz / 3))), (4, .int (nI i + nI 1)), (5, .int (nI (3 * i)))], [], z)) rfl ?_
          rw [nI_add i 1]
          refine run_ok 1 (c' := (41, [(0, .ref 0), (1, .int (nI 3)), (2, .ref 44), (3, .int (nI (sz / 3))), (4, .int (nI (i + 1))), (5, .int (nI (3 * i)))], [], z)) rfl ?_
          refine x_less [0, 1, 2, 3, 4] rfl ?_
          refine ih z (adv T1 (nI kd) (nI wk) (nI bo)) (by unfold adv; rw [nI_clamp (by omega), nI_clamp (by omega), nI_clamp (by omega)]; exact hTz) (tok_adv hk1 hne hkd hwk hbo) (hf.tr hfz) (h2z.trans h2) (hKz.trans hK) hs
        · rw [show rdf (S.1 45) (sz / 3 - (i + 1) + 1) i T1 = (i, T1) from if_neg (fun z => hne z.2)] at hs
          rw [e1, e2, e3]
          refine x_callV [.int (nI kd), .int (nI wk), .int (nI bo)] rfl cv_N_event.1 lk_6_142 cv_N_event.2.1 cv_N_event.2.2.1 rfl cv_N_event.2.2.2.1 rfl rfl (Nat.le_of_ble_eq_true rfl) (by decide) cv_N_event.2.2.2.2 (c_event_full v T1 hT1 hk1 kd wk bo hkd hwk hbo hne) ?_
          rintro r x ⟨hr, hu⟩
          rw [hr, hu]
          clear hr hu r x
          refine x_if_ge 88 rfl rfl (fun hn => absurd hn (by decide)) (fun h82 => ?_)
          refine run_ok 1 (c' := (87, [(0, .ref 0), (1, .int (nI 3)), (2, .ref 44), (3, .int (nI (sz / 3))), (4, .int (nI i)), (5, .int (nI (3 * i)))], [.int (nI i)], v)) rfl ?_
          refine x_ret (r := some (.int (nI i))) rfl rfl trivial ?_ rfl
          rw [hs]
          exact ⟨rfl, hT1, hk1, hf, h2, hK⟩
      · rw [show rdf (S.1 45) (sz / 3 - (i + 1) + 1) i T1 = (i, T1) from if_neg (fun z => hok z.1)] at hs
        refine x_callV [.int (S.1 45 (3 * i)), .int (S.1 45 ((3 * i) + 1)), .int (S.1 45 ((3 * i) + 2))] rfl cv_N_event.1 lk_6_142 cv_N_event.2.1 cv_N_event.2.2.1 rfl cv_N_event.2.2.2.1 rfl rfl (Nat.le_of_ble_eq_true rfl) (by decide) cv_N_event.2.2.2.2 (c_event_bad v (S.1 45 (3 * i)) (S.1 45 (3 * i + 1)) (S.1 45 (3 * i + 2)) (fun z => hok (decide_eq_true z))) ?_
        rintro r x ⟨hr, hu⟩
        rw [hr, hu]
        clear hr hu r x
        refine x_if_ge 88 rfl rfl (fun hn => absurd hn (by decide)) (fun h82 => ?_)
        refine run_ok 1 (c' := (87, [(0, .ref 0), (1, .int (nI 3)), (2, .ref 44), (3, .int (nI (sz / 3))), (4, .int (nI i)), (5, .int (nI (3 * i)))], [.int (nI i)], v)) rfl ?_
        refine x_ret (r := some (.int (nI i))) rfl rfl trivial ?_ rfl
        rw [hs]
        exact ⟨rfl, hT1, hk1, hf, h2, hK⟩
  refine run_ok 2 (c' := (2, [(0, .ref 0), (1, .int (nI 3))], [.int (nI 4), .int (nI 3)], S)) rfl ?_
  refine x_callS [.int (nI 3), .int (nI 4)] rfl cs_N_isBelow.1 lk_6_73 cs_N_isBelow.2.1 rfl rfl (Nat.le_of_ble_eq_true rfl) (by decide) cs_N_isBelow.2.2 (c_isBelow S (nI 3) (nI 4)) ?_
  rintro r u ⟨hr, hu⟩
  rw [hr, hu]
  clear hr hu r u
  refine x_ifB_ne 11 rfl rfl (fun h5 => ?_) (fun hn => absurd (inr_t (by decide) (by decide)) hn)
  refine run_ok 3 (c' := (16, [(0, .ref 0), (1, .int (nI 3))], [.int (nI 3), .ref 37], S)) rfl ?_
  refine x_aald (t := 44) rfl rfl (vp_in_nI (by decide) (by decide)) (by decide) ?_
  refine run_ok 3 (c' := (22, [(0, .ref 0), (1, .int (nI 3)), (2, .ref 44)], [.int (S.1 44 3)], S)) rfl ?_
  refine x_top (v' := nI lo) g3 ?_
  refine x_ifN_eq 31 rfl rfl (by omega) (fun h22 => ?_) (fun hn => absurd hlo0 hn)
  refine run_ok 2 (c' := (35, [(0, .ref 0), (1, .int (nI 3)), (2, .ref 44)], [.int (S.1 44 2)], S)) rfl ?_
  refine x_top (v' := nI sz) g2 ?_
  refine run_ok 1 (c' := (36, [(0, .ref 0), (1, .int (nI 3)), (2, .ref 44)], [.int (nI 3), .int (nI sz)], S)) rfl ?_
  refine x_idiv rfl (by decide) ?_
  refine x_top (v' := nI (sz / 3)) (pk_div (by omega) (by omega) (by omega)) ?_
  refine run_ok 3 (c' := (41, [(0, .ref 0), (1, .int (nI 3)), (2, .ref 44), (3, .int (nI (sz / 3))), (4, .int (nI 0))], [], S)) rfl ?_
  exact H 0 (Nat.zero_le _) S T hT hto fr.rf rfl rfl rfl

theorem hzf_le {b : Nat → Nat} {n : Nat} (h : flt (okh b) 4 n = none) : ∀ i, i ≤ (n + 1) / 4 → ∀ j, hzf b i j ≤ 9 := by
  intro i
  induction i with
  | zero => intro _ j; exact Nat.zero_le 9
  | succ i ih =>
    intro hi j
    have q := hate_ok h (show i < (n + 1) / 4 by omega)
    show upn (hzf b i) _ _ j ≤ 9
    unfold upn
    split
    · omega
    · exact ih (by omega) j
theorem hzf_9 (n : Nat) (b : Nat → Nat) (j : Nat) : hzf b (hcn n b) j ≤ 9 := by
  unfold hcn
  split
  · rename_i h
    exact hzf_le h _ (Nat.le_refl _) j
  · exact Nat.zero_le 9
theorem bcn_8 {n : Nat} {b : Nat → Nat} (hn : n ≤ 39) : bcn n b ≤ 8 := by
  unfold bcn
  split <;> omega

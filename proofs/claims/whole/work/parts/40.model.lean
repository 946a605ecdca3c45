/-! the model: shares, making up, launching, bearing -/
set_option maxHeartbeats 2000000 in
theorem m_shares (S : ST) (T : TD) (V : VS) (k : Nat) (hT : MT T S) (hto : tok T) (hM : MV T V S) (hV : vk T V) (hk : k < tnb T) (hnm : vnm V k < 8) : EX me_R_shares 0 [.ref 48, .int (nI k)] S (fun r u => r = none ∧ MV T (shr T V k) u ∧ fr [63, 66] S u ∧ u.2 = S.2) := by
  refine EX.of mok_R_shares (Nat.le_of_ble_eq_true rfl) ?_
  obtain ⟨n8, n9, hbt, het, hht, hlo⟩ := id hto
  obtain ⟨t1, t2, t3, t4, t5, t6, t7, t8, t9, t10, t11⟩ := id hT
  obtain ⟨m1, m2, m3, m4, m5, m6, m7⟩ := id hM
  obtain ⟨hh9, hv3, hb9, hfw, hfb⟩ := id hV
  have q2 := (hbt k hk).2.1
  have q3 := hh9 (8 * vnm V k + tbu T k) (by omega)
  refine run_ok 4 (c' := (7, [(0, .ref 48), (1, .int (nI k))], [.int (nI k), .ref 65, .int (nI 8)], S)) rfl ?_
  refine x_iaN (nI (vnm V k)) rfl rfl (by decide) (by omega) ((m3 k hk).trans (nmv_lt hnm)) ?_
  refine run_ok 1 (c' := (9, [(0, .ref 48), (1, .int (nI k))], [.int ((nI 8) * (nI (vnm V k)))], S)) rfl ?_
  refine x_top (v' := nI (8 * (vnm V k))) (pk_mul _ _) ?_
  refine run_ok 3 (c' := (14, [(0, .ref 48), (1, .int (nI k))], [.int (nI k), .ref 54, .int (nI (8 * (vnm V k)))], S)) rfl ?_
  refine x_iaN (nI (tbu T k)) rfl rfl (by decide) (by omega) (t3 k (by omega)) ?_
  refine run_ok 1 (c' := (16, [(0, .ref 48), (1, .int (nI k))], [.int ((nI (8 * (vnm V k))) + (nI (tbu T k)))], S)) rfl ?_
  refine x_top (v' := nI ((8 * (vnm V k)) + (tbu T k))) (nI_add _ _) ?_
  refine run_ok 5 (c' := (23, [(0, .ref 48), (1, .int (nI k)), (2, .int (nI ((8 * (vnm V k)) + (tbu T k))))], [.int (nI 0), .int (nI k), .ref 66], S)) rfl ?_
  refine x_isN rfl rfl (by decide) (by omega) ?_
  refine run_ok 4 (c' := (30, [(0, .ref 48), (1, .int (nI k)), (2, .int (nI ((8 * (vnm V k)) + (tbu T k))))], [.int (nI ((8 * (vnm V k)) + (tbu T k))), .ref 63, .int (nI ((8 * (vnm V k)) + (tbu T k))), .ref 63], (pt S 66 k (nI 0)))) rfl ?_
  refine x_iaN (nI (vh V ((8 * (vnm V k)) + (tbu T k)))) rfl rfl (by decide) (by omega) (m1 ((8 * (vnm V k)) + (tbu T k)) (by omega)) ?_
  refine run_ok 3 (c' := (36, [(0, .ref 48), (1, .int (nI k)), (2, .int (nI ((8 * (vnm V k)) + (tbu T k))))], [.int (nI ((8 * (vnm V k)) + (tbu T k))), .ref 63, .int (nI (vh V ((8 * (vnm V k)) + (tbu T k)))), .int (nI ((8 * (vnm V k)) + (tbu T k))), .ref 63], (pt S 66 k (nI 0)))) rfl ?_
  refine x_iaN (nI (vh V ((8 * (vnm V k)) + (tbu T k)))) rfl rfl (by decide) (by omega) (m1 ((8 * (vnm V k)) + (tbu T k)) (by omega)) ?_
  refine x_ifN_le 44 rfl rfl (by omega) (fun h37 => ?_) (fun h37 => ?_)
  · refine run_ok 2 (c' := (46, [(0, .ref 48), (1, .int (nI k)), (2, .int (nI ((8 * (vnm V k)) + (tbu T k))))], [.int ((nI (vh V ((8 * (vnm V k)) + (tbu T k)))) - (nI 0)), .int (nI ((8 * (vnm V k)) + (tbu T k))), .ref 63], (pt S 66 k (nI 0)))) rfl ?_
    refine x_isN rfl rfl (by decide) (by omega) ?_
    exact x_ret (r := none) rfl rfl trivial ⟨rfl, ⟨(m1.ne (k' := 66) (by decide)).putv ((by rw [pk_sub (by omega)]; exact congrArg nI (by omega))), m2, m3, (m4.put).ne (by decide), m5, m6, m7⟩, (fr.rf.pt (by decide)).pt (by decide), rfl⟩ rfl
  · refine run_ok 3 (c' := (46, [(0, .ref 48), (1, .int (nI k)), (2, .int (nI ((8 * (vnm V k)) + (tbu T k))))], [.int ((nI (vh V ((8 * (vnm V k)) + (tbu T k)))) - (nI 1)), .int (nI ((8 * (vnm V k)) + (tbu T k))), .ref 63], (pt S 66 k (nI 0)))) rfl ?_
    refine x_isN rfl rfl (by decide) (by omega) ?_
    exact x_ret (r := none) rfl rfl trivial ⟨rfl, ⟨(m1.ne (k' := 66) (by decide)).putv (pk_sub (by omega)), m2, m3, (m4.put).ne (by decide), m5, m6, m7⟩, (fr.rf.pt (by decide)).pt (by decide), rfl⟩ rfl

set_option maxHeartbeats 2000000 in
theorem m_makesUp (S : ST) (T : TD) (V : VS) (k : Nat) (hT : MT T S) (hto : tok T) (hM : MV T V S) (hV : vk T V) (hk : k < tnb T) (hnm : vnm V k < 8) : EX me_R_makesUp 0 [.ref 48, .int (nI k)] S (fun r u => r = none ∧ MV T (mku T V k) u ∧ fr [63, 66] S u ∧ u.2 = S.2) := by
  refine EX.of mok_R_makesUp (Nat.le_of_ble_eq_true rfl) ?_
  obtain ⟨n8, n9, hbt, het, hht, hlo⟩ := id hto
  obtain ⟨t1, t2, t3, t4, t5, t6, t7, t8, t9, t10, t11⟩ := id hT
  obtain ⟨m1, m2, m3, m4, m5, m6, m7⟩ := id hM
  obtain ⟨hh9, hv3, hb9, hfw, hfb⟩ := id hV
  have q2 := (hbt k hk).2.1
  refine run_ok 6 (c' := (11, [(0, .ref 48), (1, .int (nI k))], [.int (nI k), .ref 65, .int (nI 8), .ref 63], S)) rfl ?_
  refine x_iaN (nI (vnm V k)) rfl rfl (by decide) (by omega) ((m3 k hk).trans (nmv_lt hnm)) ?_
  refine run_ok 1 (c' := (13, [(0, .ref 48), (1, .int (nI k))], [.int ((nI 8) * (nI (vnm V k))), .ref 63], S)) rfl ?_
  refine x_top (v' := nI (8 * (vnm V k))) (pk_mul _ _) ?_
  refine run_ok 3 (c' := (18, [(0, .ref 48), (1, .int (nI k))], [.int (nI k), .ref 54, .int (nI (8 * (vnm V k))), .ref 63], S)) rfl ?_
  refine x_iaN (nI (tbu T k)) rfl rfl (by decide) (by omega) (t3 k (by omega)) ?_
  refine run_ok 1 (c' := (20, [(0, .ref 48), (1, .int (nI k))], [.int ((nI (8 * (vnm V k))) + (nI (tbu T k))), .ref 63], S)) rfl ?_
  refine x_top (v' := nI ((8 * (vnm V k)) + (tbu T k))) (nI_add _ _) ?_
  refine run_ok 1 (c' := (21, [(0, .ref 48), (1, .int (nI k))], [.int (nI 0), .int (nI ((8 * (vnm V k)) + (tbu T k))), .ref 63], S)) rfl ?_
  refine x_isN rfl rfl (by decide) (by omega) ?_
  refine run_ok 6 (c' := (33, [(0, .ref 48), (1, .int (nI k))], [.int (nI k), .ref 54, .int (nI 8), .ref 63], (pt S 63 ((8 * (vnm V k)) + (tbu T k)) (nI 0)))) rfl ?_
  refine x_iaN (nI (tbu T k)) rfl rfl (by decide) (by omega) (t3 k (by omega)) ?_
  refine run_ok 1 (c' := (35, [(0, .ref 48), (1, .int (nI k))], [.int ((nI 8) * (nI (tbu T k))), .ref 63], (pt S 63 ((8 * (vnm V k)) + (tbu T k)) (nI 0)))) rfl ?_
  refine x_top (v' := nI (8 * (tbu T k))) (pk_mul _ _) ?_
  refine run_ok 3 (c' := (40, [(0, .ref 48), (1, .int (nI k))], [.int (nI k), .ref 65, .int (nI (8 * (tbu T k))), .ref 63], (pt S 63 ((8 * (vnm V k)) + (tbu T k)) (nI 0)))) rfl ?_
  refine x_iaN (nI (vnm V k)) rfl rfl (by decide) (by omega) ((m3 k hk).trans (nmv_lt hnm)) ?_
  refine run_ok 1 (c' := (42, [(0, .ref 48), (1, .int (nI k))], [.int ((nI (8 * (tbu T k))) + (nI (vnm V k))), .ref 63], (pt S 63 ((8 * (vnm V k)) + (tbu T k)) (nI 0)))) rfl ?_
  refine x_top (v' := nI ((8 * (tbu T k)) + (vnm V k))) (nI_add _ _) ?_
  refine run_ok 1 (c' := (43, [(0, .ref 48), (1, .int (nI k))], [.int (nI 0), .int (nI ((8 * (tbu T k)) + (vnm V k))), .ref 63], (pt S 63 ((8 * (vnm V k)) + (tbu T k)) (nI 0)))) rfl ?_
  refine x_isN rfl rfl (by decide) (by omega) ?_
  exact x_ret (r := none) rfl rfl trivial ⟨rfl, ⟨m1.put.put, m2, m3, m4, m5, m6, m7⟩, (fr.rf.pt (by decide)).pt (by decide), rfl⟩ rfl

set_option maxHeartbeats 2000000 in
theorem m_launches (S : ST) (T : TD) (V : VS) (k : Nat) (hT : MT T S) (hto : tok T) (hM : MV T V S) (hV : vk T V) (hk : k < tnb T) : EX me_R_launches 0 [.ref 48, .int (nI k)] S (fun r u => r = none ∧ MV T (lau T V k) u ∧ fr [64, 65] S u ∧ u.2 = S.2) := by
  refine EX.of mok_R_launches (Nat.le_of_ble_eq_true rfl) ?_
  obtain ⟨n8, n9, hbt, het, hht, hlo⟩ := id hto
  obtain ⟨t1, t2, t3, t4, t5, t6, t7, t8, t9, t10, t11⟩ := id hT
  obtain ⟨m1, m2, m3, m4, m5, m6, m7⟩ := id hM
  obtain ⟨hh9, hv3, hb9, hfw, hfb⟩ := id hV
  have q2 := (hbt k hk).2.1
  have hw8 := (wst_le (vh V) (tbu T k) hh9 q2 8 (by omega)).1
  have H : ∀ i, i ≤ 8 → BX me_R_launches 0 none (fun r u => r = none ∧ MV T (lau T V k) u ∧ fr [64, 65] S u ∧ u.2 = S.2) (7, [(0, .ref 48), (1, .int (nI k)), (2, .int (nmv (wst (vh V) (tbu T k) i).1)), (3, .int (nI ((wst (vh V) (tbu T k) i).2))), (4, .int (nI i))], [], S) := by
    refine loop_up (P := fun i => BX me_R_launches 0 none (fun r u => r = none ∧ MV T (lau T V k) u ∧ fr [64, 65] S u ∧ u.2 = S.2) (7, [(0, .ref 48), (1, .int (nI k)), (2, .int (nmv (wst (vh V) (tbu T k) i).1)), (3, .int (nI ((wst (vh V) (tbu T k) i).2))), (4, .int (nI i))], [], S)) 8 ?_ ?_
    · skip
      refine run_ok 2 (c' := (11, [(0, .ref 48), (1, .int (nI k)), (2, .int (nmv (wst (vh V) (tbu T k) 8).1)), (3, .int (nI ((wst (vh V) (tbu T k) 8).2))), (4, .int (nI 8))], [.int (nI 8), .int (nI 8)], S)) rfl ?_
      refine x_icmpN_ge 65 rfl rfl (by omega) (by omega) (fun h11 => ?_) (fun hn => absurd (Nat.le_refl 8) hn)
      refine run_ok 4 (c' := (71, [(0, .ref 48), (1, .int (nI k)), (2, .int (nmv (wst (vh V) (tbu T k) 8).1)), (3, .int (nI ((wst (vh V) (tbu T k) 8).2))), (4, .int (nI 8))], [.int (nmv (wst (vh V) (tbu T k) 8).1), .int (nI k), .ref 65], S)) rfl ?_
      refine x_isN rfl rfl (by decide) (by omega) ?_
      refine run_ok 5 (c' := (79, [(0, .ref 48), (1, .int (nI k)), (2, .int (nmv (wst (vh V) (tbu T k) 8).1)), (3, .int (nI ((wst (vh V) (tbu T k) 8).2))), (4, .int (nI 8))], [.int (-1), .int (nmv (wst (vh V) (tbu T k) 8).1), .int (nI k), .ref 64], (pt S 65 k (nmv (wst (vh V) (tbu T k) 8).1)))) rfl ?_
      refine x_icmp_ne 86 rfl rfl (fun h79 => ?_) (fun h79 => ?_)
      · refine run_ok 1 (c' := (87, [(0, .ref 48), (1, .int (nI k)), (2, .int (nmv (wst (vh V) (tbu T k) 8).1)), (3, .int (nI ((wst (vh V) (tbu T k) 8).2))), (4, .int (nI 8))], [.int (nI 1), .int (nI k), .ref 64], (pt S 65 k (nmv (wst (vh V) (tbu T k) 8).1)))) rfl ?_
        refine x_isN rfl rfl (by decide) (by omega) ?_
        refine x_ret (r := none) rfl rfl trivial ?_ rfl
        have ei : (if (wst (vh V) (tbu T k) 8).1 = 8 then 3 else 1) = 1 := if_neg (fun z => h79 ((nmv_n1 hw8).mpr z))
        refine ⟨rfl, ⟨m1, ((m2.ne (k' := 65) (by decide)).putv (by rw [ei])), fun j hj => ?_, m4, m5, m6, m7⟩, (fr.rf.pt (by decide)).pt (by decide), rfl⟩
        show upd (S.1 65) k _ j = nmv (upn (vnm V) k _ j)
        by_cases e : j = k
        · rw [e, upn_s, upd_s]
        · rw [upn_n e, upd_n e]; exact m3 j hj
      · refine run_ok 2 (c' := (87, [(0, .ref 48), (1, .int (nI k)), (2, .int (nmv (wst (vh V) (tbu T k) 8).1)), (3, .int (nI ((wst (vh V) (tbu T k) 8).2))), (4, .int (nI 8))], [.int (nI 3), .int (nI k), .ref 64], (pt S 65 k (nmv (wst (vh V) (tbu T k) 8).1)))) rfl ?_
        refine x_isN rfl rfl (by decide) (by omega) ?_
        refine x_ret (r := none) rfl rfl trivial ?_ rfl
        have ei : (if (wst (vh V) (tbu T k) 8).1 = 8 then 3 else 1) = 3 := if_pos ((nmv_n1 hw8).mp h79)
        refine ⟨rfl, ⟨m1, ((m2.ne (k' := 65) (by decide)).putv (by rw [ei])), fun j hj => ?_, m4, m5, m6, m7⟩, (fr.rf.pt (by decide)).pt (by decide), rfl⟩
        show upd (S.1 65) k _ j = nmv (upn (vnm V) k _ j)
        by_cases e : j = k
        · rw [e, upn_s, upd_s]
        · rw [upn_n e, upd_n e]; exact m3 j hj
    · intro i hi ih
      have r1 := wst_le (vh V) (tbu T k) hh9 q2 i (by omega)
      have r2 := hh9 (8 * i + tbu T k) (by omega)
      refine run_ok 2 (c' := (11, [(0, .ref 48), (1, .int (nI k)), (2, .int (nmv (wst (vh V) (tbu T k) i).1)), (3, .int (nI ((wst (vh V) (tbu T k) i).2))), (4, .int (nI i))], [.int (nI 8), .int (nI i)], S)) rfl ?_
      refine x_icmpN_ge 65 rfl rfl (by omega) (by omega) (fun hn => absurd hn (show ¬ 8 ≤ i by omega)) (fun h11 => ?_)
      refine run_ok 5 (c' := (23, [(0, .ref 48), (1, .int (nI k)), (2, .int (nmv (wst (vh V) (tbu T k) i).1)), (3, .int (nI ((wst (vh V) (tbu T k) i).2))), (4, .int (nI i))], [.int ((nI 8) * (nI i)), .ref 63], S)) rfl ?_
      refine x_top (v' := nI (8 * i)) (pk_mul _ _) ?_
      refine run_ok 3 (c' := (28, [(0, .ref 48), (1, .int (nI k)), (2, .int (nmv (wst (vh V) (tbu T k) i).1)), (3, .int (nI ((wst (vh V) (tbu T k) i).2))), (4, .int (nI i))], [.int (nI k), .ref 54, .int (nI (8 * i)), .ref 63], S)) rfl ?_
      refine x_iaN (nI (tbu T k)) rfl rfl (by decide) (by omega) (t3 k (by omega)) ?_
      refine run_ok 1 (c' := (30, [(0, .ref 48), (1, .int (nI k)), (2, .int (nmv (wst (vh V) (tbu T k) i).1)), (3, .int (nI ((wst (vh V) (tbu T k) i).2))), (4, .int (nI i))], [.int ((nI (8 * i)) + (nI (tbu T k))), .ref 63], S)) rfl ?_
      refine x_top (v' := nI ((8 * i) + (tbu T k))) (nI_add _ _) ?_
      refine x_iaN (nI (vh V ((8 * i) + (tbu T k)))) rfl rfl (by decide) (by omega) (m1 ((8 * i) + (tbu T k)) (by omega)) ?_
      refine run_ok 3 (c' := (36, [(0, .ref 48), (1, .int (nI k)), (2, .int (nmv (wst (vh V) (tbu T k) i).1)), (3, .int (nI ((wst (vh V) (tbu T k) i).2))), (4, .int (nI i)), (5, .int (nI (vh V ((8 * i) + (tbu T k)))))], [.int (nI ((wst (vh V) (tbu T k) i).2)), .int (nI (vh V ((8 * i) + (tbu T k))))], S)) rfl ?_
      refine x_icmpN_le 44 rfl rfl (by omega) (by omega) (fun h36 => ?_) (fun h36 => ?_)
      · refine run_ok 2 (c' := (46, [(0, .ref 48), (1, .int (nI k)), (2, .int (nmv (wst (vh V) (tbu T k) i).1)), (3, .int (nI ((wst (vh V) (tbu T k) i).2))), (4, .int (nI i)), (5, .int (nI (vh V ((8 * i) + (tbu T k)))))], [], S)) rfl ?_
        refine run_ok 2 (c' := (49, [(0, .ref 48), (1, .int (nI k)), (2, .int (nmv (wst (vh V) (tbu T k) i).1)), (3, .int (nI ((wst (vh V) (tbu T k) i).2))), (4, .int (nI i)), (5, .int (nI (vh V ((8 * i) + (tbu T k)))))], [.int (nI ((wst (vh V) (tbu T k) i).2)), .int (nI (vh V ((8 * i) + (tbu T k))))], S)) rfl ?_
        refine x_icmpN_le 57 rfl rfl (by omega) (by omega) (fun h49 => ?_) (fun hn => absurd h36 hn)
        refine run_ok 3 (c' := (62, [(0, .ref 48), (1, .int (nI k)), (2, .int (nmv (wst (vh V) (tbu T k) i).1)), (3, .int (nI ((wst (vh V) (tbu T k) i).2))), (4, .int (nI i + nI 1)), (5, .int (nI (vh V ((8 * i) + (tbu T k)))))], [], S)) rfl ?_
        rw [nI_add i 1]
        refine run_ok 1 (c' := (7, [(0, .ref 48), (1, .int (nI k)), (2, .int (nmv (wst (vh V) (tbu T k) i).1)), (3, .int (nI ((wst (vh V) (tbu T k) i).2))), (4, .int (nI (i + 1))), (5, .int (nI (vh V ((8 * i) + (tbu T k)))))], [], S)) rfl ?_
        rw [show wst (vh V) (tbu T k) (i + 1) = wst (vh V) (tbu T k) i from if_neg (by omega)] at ih
        refine x_less [0, 1, 2, 3, 4] rfl ?_
        exact ih
      · refine run_ok 3 (c' := (46, [(0, .ref 48), (1, .int (nI k)), (2, .int (nI i)), (3, .int (nI ((wst (vh V) (tbu T k) i).2))), (4, .int (nI i)), (5, .int (nI (vh V ((8 * i) + (tbu T k)))))], [], S)) rfl ?_
        refine run_ok 2 (c' := (49, [(0, .ref 48), (1, .int (nI k)), (2, .int (nI i)), (3, .int (nI ((wst (vh V) (tbu T k) i).2))), (4, .int (nI i)), (5, .int (nI (vh V ((8 * i) + (tbu T k)))))], [.int (nI ((wst (vh V) (tbu T k) i).2)), .int (nI (vh V ((8 * i) + (tbu T k))))], S)) rfl ?_
        refine x_icmpN_le 57 rfl rfl (by omega) (by omega) (fun hn => absurd hn h36) (fun h49 => ?_)
        refine run_ok 4 (c' := (62, [(0, .ref 48), (1, .int (nI k)), (2, .int (nI i)), (3, .int (nI (vh V ((8 * i) + (tbu T k))))), (4, .int (nI i + nI 1)), (5, .int (nI (vh V ((8 * i) + (tbu T k)))))], [], S)) rfl ?_
        rw [nI_add i 1]
        refine run_ok 1 (c' := (7, [(0, .ref 48), (1, .int (nI k)), (2, .int (nI i)), (3, .int (nI (vh V ((8 * i) + (tbu T k))))), (4, .int (nI (i + 1))), (5, .int (nI (vh V ((8 * i) + (tbu T k)))))], [], S)) rfl ?_
        rw [show wst (vh V) (tbu T k) (i + 1) = (i, vh V (8 * i + tbu T k)) from if_pos (by omega), show nmv (i, vh V (8 * i + tbu T k)).1 = nI i from nmv_lt (by omega)] at ih
        refine x_less [0, 1, 2, 3, 4] rfl ?_
        exact ih
  refine run_ok 6 (c' := (7, [(0, .ref 48), (1, .int (nI k)), (2, .int (nmv (wst (vh V) (tbu T k) 0).1)), (3, .int (nI ((wst (vh V) (tbu T k) 0).2))), (4, .int (nI 0))], [], S)) rfl ?_
  exact H 0 (by omega)


/-! the model: what never was, sorts, hates by what was seen -/
theorem x_lv1i {M : MI} {D : Nat} {sc : Option (Nat × (Nat → Int32))} {Q : Option Value → ST → Prop} {pc : Nat} {a b : Value} {k : Nat} {lv : List (Nat × Value)} {st : List Value} {S : ST} {x y : Int32} (h : x = y) (kk : BX M D sc Q (pc, (0, a) :: (1, .int y) :: (k, b) :: lv, st, S)) : BX M D sc Q (pc, (0, a) :: (1, .int x) :: (k, b) :: lv, st, S) := by rw [h]; exact kk
theorem fitb_dn {T : TD} {V : VS} {G : SD} {i n : Nat} (h : i ≤ n) (hf : fitb T V G n = true) : fitb T V G i = true := by
  induction n with
  | zero => rw [show i = 0 by omega]; rfl
  | succ n ih =>
    by_cases e : i = n + 1
    · rw [e]; exact hf
    · unfold fitb at hf
      exact ih (by omega) (Bool.and_eq_true_iff.mp hf).1
theorem or_z (a : Nat) : nI a ||| nI 0 = nI a := by rw [fa_or, Nat.or_zero]
theorem MT_lo {T : TD} {l m : Nat} {u : ST} (hTl : MT (wlo T l) u) : MT (wlo T m) (pt u 48 18 (nI m)) := ⟨hTl.1, hTl.2.1, hTl.2.2.1, hTl.2.2.2.1, hTl.2.2.2.2.1, hTl.2.2.2.2.2.1, hTl.2.2.2.2.2.2.1, hTl.2.2.2.2.2.2.2.1, hTl.2.2.2.2.2.2.2.2.1, hTl.2.2.2.2.2.2.2.2.2.1, rfl⟩
set_option maxHeartbeats 2000000 in
theorem m_isSeen (S : ST) (T : TD) (hT : MT T S) (hto : tok T) (G : SD) (hg : SM G S) (hgo : sok G) : EX me_R_isSeen 4 [.ref 48] S (fun r u => r = some (.int (b2 (fitb T (vo T 24) G G.1 = true))) ∧ RC T 24 u ∧ MT T u ∧ fr MW S u ∧ f48 [24, 25] S u ∧ u.2 = S.2) := by
  refine EX.of mok_R_isSeen (Nat.le_of_ble_eq_true rfl) ?_
  have n8 := hto.1
  have g8 := hgo.1
  refine run_ok 1 (c' := (1, [(0, .ref 48)], [.ref 48], S)) rfl ?_
  refine x_callV [] rfl cv_R_runs.1 lk_7_223 cv_R_runs.2.1 cv_R_runs.2.2.1 rfl cv_R_runs.2.2.2.1 rfl rfl (Nat.le_of_ble_eq_true rfl) (by decide) cv_R_runs.2.2.2.2 (m_runs S T hT hto) ?_
  rintro r u ⟨hr, hMu, hCu, hTu, hfu, h8u, h2u⟩
  rw [hr]
  clear hr r
  have hgu : SM G u := hg.keep hfu (by decide) (h8u 32 (by decide))
  obtain ⟨g1, g2, g3, g4⟩ := id hgu
  have t9 := hTu.2.2.2.2.2.2.2.2.1
  refine run_ok 4 (c' := (8, [(0, .ref 48), (1, .int (nI 1)), (2, .int (nI 0))], [], u)) rfl ?_
  refine x_lv1i (y := b2 (fitb T (vo T 24) G 0 = true)) (b2_t (p := fitb T (vo T 24) G 0 = true) rfl).symm ?_
  refine loop_up (P := fun i => BX me_R_isSeen 4 none (fun r u => r = some (.int (b2 (fitb T (vo T 24) G G.1 = true))) ∧ RC T 24 u ∧ MT T u ∧ fr MW S u ∧ f48 [24, 25] S u ∧ u.2 = S.2) (8, [(0, .ref 48), (1, .int (b2 (fitb T (vo T 24) G i = true))), (2, .int (nI i))], [], u)) (G.1) ?_ ?_ 0 (by omega)
  · skip
    refine run_ok 3 (c' := (13, [(0, .ref 48), (1, .int (b2 (fitb T (vo T 24) G G.1 = true))), (2, .int (nI G.1))], [.int (u.1 48 32), .int (nI G.1)], u)) rfl ?_
    refine x_top (v' := nI G.1) g1 ?_
    refine x_icmpN_ge 92 rfl rfl (by omega) (by omega) (fun h13 => ?_) (fun hn => absurd (Nat.le_refl _) hn)
    refine run_ok 1 (c' := (93, [(0, .ref 48), (1, .int (b2 (fitb T (vo T 24) G G.1 = true))), (2, .int (nI G.1))], [.int (b2 (fitb T (vo T 24) G G.1 = true))], u)) rfl ?_
    exact x_ret (r := some (.int (b2 (fitb T (vo T 24) G G.1 = true)))) rfl rfl (b2_01 _) ⟨rfl, hCu, hTu, hfu, h8u, h2u⟩ rfl
  · intro i hi ih
    obtain ⟨gw, gb, gp⟩ := hgo.2 i hi
    have qn : nmb T (vo T 24) (G.2.1 i) (G.2.2.1 i) ≤ 8 := nmb_le ((vk_vo hto 24 (by omega)).1.2.1 (G.2.2.1 i) gb).2.1
    refine run_ok 3 (c' := (13, [(0, .ref 48), (1, .int (b2 (fitb T (vo T 24) G i = true))), (2, .int (nI i))], [.int (u.1 48 32), .int (nI i)], u)) rfl ?_
    refine x_top (v' := nI G.1) g1 ?_
    refine x_icmpN_ge 92 rfl rfl (by omega) (by omega) (fun hn => absurd hn (show ¬ G.1 ≤ i by omega)) (fun h13 => ?_)
    refine run_ok 1 (c' := (17, [(0, .ref 48), (1, .int (b2 (fitb T (vo T 24) G i = true))), (2, .int (nI i))], [.int (b2 (fitb T (vo T 24) G i = true))], u)) rfl ?_
    refine x_ifB_eq 92 rfl rfl (fun h17 => ?_) (fun h17 => ?_)
    · refine run_ok 1 (c' := (93, [(0, .ref 48), (1, .int (b2 (fitb T (vo T 24) G i = true))), (2, .int (nI i))], [.int (b2 (fitb T (vo T 24) G i = true))], u)) rfl ?_
      exact x_ret (r := some (.int (b2 (fitb T (vo T 24) G i = true)))) rfl rfl (b2_01 _) ⟨congrArg (fun z => some (Value.int z)) (b2_c ⟨fun z => absurd z h17, fun z => absurd (fitb_dn (Nat.le_of_lt hi) z) h17⟩), hCu, hTu, hfu, h8u, h2u⟩ rfl
    · refine run_ok 3 (c' := (25, [(0, .ref 48), (1, .int (b2 (fitb T (vo T 24) G i = true))), (2, .int (nI i))], [.int (nI i), .ref 75], u)) rfl ?_
      refine x_iaN (nI (G.2.2.1 i)) rfl rfl (by decide) (by omega) (g3 i (by omega)) ?_
      refine run_ok 2 (c' := (30, [(0, .ref 48), (1, .int (b2 (fitb T (vo T 24) G i = true))), (2, .int (nI i))], [.int (u.1 48 5), .int (nI (G.2.2.1 i))], u)) rfl ?_
      refine x_top (v' := nI (tnb T)) t9 ?_
      refine x_icmpN_ge 57 rfl rfl (by omega) (by omega) (fun h30 => ?_) (fun h30 => ?_)
      · refine run_ok 4 (c' := (62, [(0, .ref 48), (1, .int (b2 (fitb T (vo T 24) G i = true))), (2, .int (nI i)), (3, .int (nI 9))], [.int (-1), .int (nI 9)], u)) rfl ?_
        refine x_icmp_ne 70 rfl rfl (fun h62 => ?_) (fun h62 => ?_)
        · refine run_ok 1 (c' := (71, [(0, .ref 48), (1, .int (b2 (fitb T (vo T 24) G i = true))), (2, .int (nI i)), (3, .int (nI 9))], [.int (nI 9)], u)) rfl ?_
          refine run_ok 3 (c' := (76, [(0, .ref 48), (1, .int (b2 (fitb T (vo T 24) G i = true))), (2, .int (nI i)), (3, .int (nI 9))], [.int (nI i), .ref 76, .int (nI 9)], u)) rfl ?_
          refine x_iaN (nI (G.2.2.2 i)) rfl rfl (by decide) (by omega) (g4 i (by omega)) ?_
          refine x_icmpN_ne 84 rfl rfl (by omega) (by omega) (fun h77 => ?_) (fun h77 => ?_)
          · refine run_ok 3 (c' := (89, [(0, .ref 48), (1, .int (nI 0)), (2, .int (nI i + nI 1)), (3, .int (nI 9))], [], u)) rfl ?_
            rw [nI_add i 1]
            refine run_ok 1 (c' := (8, [(0, .ref 48), (1, .int (nI 0)), (2, .int (nI (i + 1))), (3, .int (nI 9))], [], u)) rfl ?_
            refine x_less [0, 1, 2] rfl ?_
            rw [b2_f (p := fitb T (vo T 24) G (i + 1) = true) (fun z => absurd z (by rw [fitb_no (i := i) (fun z => by first | exact h77 z.2 | exact absurd z.1 (by omega)) (i + 1) (by omega)]; decide))] at ih
            exact ih
          · exact absurd h77 (by omega)
        · exact absurd h62 (by decide)
      · refine run_ok 6 (c' := (44, [(0, .ref 48), (1, .int (b2 (fitb T (vo T 24) G i = true))), (2, .int (nI i))], [.int (nI i), .ref 74, .int (nI 8), .ref 69], u)) rfl ?_
        refine x_iaN (nI (G.2.1 i)) rfl rfl (by decide) (by omega) (g2 i (by omega)) ?_
        refine run_ok 1 (c' := (46, [(0, .ref 48), (1, .int (b2 (fitb T (vo T 24) G i = true))), (2, .int (nI i))], [.int ((nI 8) * (nI (G.2.1 i))), .ref 69], u)) rfl ?_
        refine x_top (v' := nI (8 * (G.2.1 i))) (pk_mul _ _) ?_
        refine run_ok 3 (c' := (51, [(0, .ref 48), (1, .int (b2 (fitb T (vo T 24) G i = true))), (2, .int (nI i))], [.int (nI i), .ref 75, .int (nI (8 * (G.2.1 i))), .ref 69], u)) rfl ?_
        refine x_iaN (nI (G.2.2.1 i)) rfl rfl (by decide) (by omega) (g3 i (by omega)) ?_
        refine run_ok 1 (c' := (53, [(0, .ref 48), (1, .int (b2 (fitb T (vo T 24) G i = true))), (2, .int (nI i))], [.int ((nI (8 * (G.2.1 i))) + (nI (G.2.2.1 i))), .ref 69], u)) rfl ?_
        refine x_top (v' := nI ((8 * (G.2.1 i)) + (G.2.2.1 i))) (nI_add _ _) ?_
        refine x_iaN (nmv (nmb T (vo T 24) (G.2.1 i) (G.2.2.1 i))) rfl rfl (by decide) (by omega) ((hCu.1 (G.2.1 i) gw (G.2.2.1 i) (by omega)).2.1.trans (congrArg nmv (nm_nmb T gw))) ?_
        refine run_ok 4 (c' := (62, [(0, .ref 48), (1, .int (b2 (fitb T (vo T 24) G i = true))), (2, .int (nI i)), (3, .int (nmv (nmb T (vo T 24) (G.2.1 i) (G.2.2.1 i))))], [.int (-1), .int (nmv (nmb T (vo T 24) (G.2.1 i) (G.2.2.1 i)))], u)) rfl ?_
        refine x_icmp_ne 70 rfl rfl (fun h62 => ?_) (fun h62 => ?_)
        · refine run_ok 1 (c' := (71, [(0, .ref 48), (1, .int (b2 (fitb T (vo T 24) G i = true))), (2, .int (nI i)), (3, .int (nmv (nmb T (vo T 24) (G.2.1 i) (G.2.2.1 i))))], [.int (nmv (nmb T (vo T 24) (G.2.1 i) (G.2.2.1 i)))], u)) rfl ?_
          refine x_top (v' := nI (nmb T (vo T 24) (G.2.1 i) (G.2.2.1 i))) (if_neg (fun z => h62 ((nmv_n1 qn).mpr z))) ?_
          refine run_ok 3 (c' := (76, [(0, .ref 48), (1, .int (b2 (fitb T (vo T 24) G i = true))), (2, .int (nI i)), (3, .int (nmv (nmb T (vo T 24) (G.2.1 i) (G.2.2.1 i))))], [.int (nI i), .ref 76, .int (nI (nmb T (vo T 24) (G.2.1 i) (G.2.2.1 i)))], u)) rfl ?_
          refine x_iaN (nI (G.2.2.2 i)) rfl rfl (by decide) (by omega) (g4 i (by omega)) ?_
          refine x_icmpN_ne 84 rfl rfl (by omega) (by omega) (fun h77 => ?_) (fun h77 => ?_)
          · refine run_ok 3 (c' := (89, [(0, .ref 48), (1, .int (nI 0)), (2, .int (nI i + nI 1)), (3, .int (nmv (nmb T (vo T 24) (G.2.1 i) (G.2.2.1 i))))], [], u)) rfl ?_
            rw [nI_add i 1]
            refine run_ok 1 (c' := (8, [(0, .ref 48), (1, .int (nI 0)), (2, .int (nI (i + 1))), (3, .int (nmv (nmb T (vo T 24) (G.2.1 i) (G.2.2.1 i))))], [], u)) rfl ?_
            refine x_less [0, 1, 2] rfl ?_
            rw [b2_f (p := fitb T (vo T 24) G (i + 1) = true) (fun z => absurd z (by rw [fitb_no (i := i) (fun z => by first | exact h77 z.2 | exact absurd z.1 (by omega)) (i + 1) (by omega)]; decide))] at ih
            exact ih
          · refine run_ok 4 (c' := (89, [(0, .ref 48), (1, .int (nI 1)), (2, .int (nI i + nI 1)), (3, .int (nmv (nmb T (vo T 24) (G.2.1 i) (G.2.2.1 i))))], [], u)) rfl ?_
            rw [nI_add i 1]
            refine run_ok 1 (c' := (8, [(0, .ref 48), (1, .int (nI 1)), (2, .int (nI (i + 1))), (3, .int (nmv (nmb T (vo T 24) (G.2.1 i) (G.2.2.1 i))))], [], u)) rfl ?_
            refine x_less [0, 1, 2] rfl ?_
            rw [b2_t (p := fitb T (vo T 24) G (i + 1) = true) (fitb_yes h17 ⟨by omega, h77⟩)] at ih
            exact ih
        · refine run_ok 2 (c' := (71, [(0, .ref 48), (1, .int (b2 (fitb T (vo T 24) G i = true))), (2, .int (nI i)), (3, .int (nmv (nmb T (vo T 24) (G.2.1 i) (G.2.2.1 i))))], [.int (nI 8)], u)) rfl ?_
          have e8 : nmb T (vo T 24) (G.2.1 i) (G.2.2.1 i) = 8 := (nmv_n1 qn).mp h62
          refine x_top (v' := nI (nmb T (vo T 24) (G.2.1 i) (G.2.2.1 i))) (by rw [e8]) ?_
          refine run_ok 3 (c' := (76, [(0, .ref 48), (1, .int (b2 (fitb T (vo T 24) G i = true))), (2, .int (nI i)), (3, .int (nmv (nmb T (vo T 24) (G.2.1 i) (G.2.2.1 i))))], [.int (nI i), .ref 76, .int (nI (nmb T (vo T 24) (G.2.1 i) (G.2.2.1 i)))], u)) rfl ?_
          refine x_iaN (nI (G.2.2.2 i)) rfl rfl (by decide) (by omega) (g4 i (by omega)) ?_
          refine x_icmpN_ne 84 rfl rfl (by omega) (by omega) (fun h77 => ?_) (fun h77 => ?_)
          · refine run_ok 3 (c' := (89, [(0, .ref 48), (1, .int (nI 0)), (2, .int (nI i + nI 1)), (3, .int (nmv (nmb T (vo T 24) (G.2.1 i) (G.2.2.1 i))))], [], u)) rfl ?_
            rw [nI_add i 1]
            refine run_ok 1 (c' := (8, [(0, .ref 48), (1, .int (nI 0)), (2, .int (nI (i + 1))), (3, .int (nmv (nmb T (vo T 24) (G.2.1 i) (G.2.2.1 i))))], [], u)) rfl ?_
            refine x_less [0, 1, 2] rfl ?_
            rw [b2_f (p := fitb T (vo T 24) G (i + 1) = true) (fun z => absurd z (by rw [fitb_no (i := i) (fun z => by first | exact h77 z.2 | exact absurd z.1 (by omega)) (i + 1) (by omega)]; decide))] at ih
            exact ih
          · refine run_ok 4 (c' := (89, [(0, .ref 48), (1, .int (nI 1)), (2, .int (nI i + nI 1)), (3, .int (nmv (nmb T (vo T 24) (G.2.1 i) (G.2.2.1 i))))], [], u)) rfl ?_
            rw [nI_add i 1]
            refine run_ok 1 (c' := (8, [(0, .ref 48), (1, .int (nI 1)), (2, .int (nI (i + 1))), (3, .int (nmv (nmb T (vo T 24) (G.2.1 i) (G.2.2.1 i))))], [], u)) rfl ?_
            refine x_less [0, 1, 2] rfl ?_
            rw [b2_t (p := fitb T (vo T 24) G (i + 1) = true) (fitb_yes h17 ⟨by omega, h77⟩)] at ih
            exact ih

set_option maxHeartbeats 2000000 in
theorem m_neverNow (S : ST) (T : TD) (n : Nat) (b : Nat → Nat) (n' : Nat) (b' : Nat → Nat) (hL : ML T n b n' b' S) (hto : tok T) (G : SD) (hg : SM G S) (hgo : sok G) : EX me_R_neverNow 7 [.ref 48] S (fun r u => r = some (.int (nI (bst (fun i => fitb (wlo T (2 ^ i)) (vo (wlo T (2 ^ i)) 24) G G.1) (tne T)))) ∧ QM S u) := by
  refine EX.of mok_R_neverNow (Nat.le_of_ble_eq_true rfl) ?_
  have ne8 := hL.2.2.2.2.2.2.2.2.2.1
  refine run_ok 1 (c' := (1, [(0, .ref 48)], [.ref 48], S)) rfl ?_
  refine x_callV [] rfl cv_R_asTold.1 lk_7_220 cv_R_asTold.2.1 cv_R_asTold.2.2.1 rfl cv_R_asTold.2.2.2.1 rfl rfl (Nat.le_of_ble_eq_true rfl) (by decide) cv_R_asTold.2.2.2.2 (m_asTold S T n b n' b' (hL.stay QM.rf) hto) ?_
  rintro r u1 ⟨hr, hTu1, hRu1, hqu1⟩
  rw [hr]
  clear hr r
  have hQu1 : QM S u1 := QM.rf.tr hqu1
  obtain ⟨t1, t2, t3, t4, t5, t6, t7, t8, t9, t10, t11⟩ := id hTu1
  refine run_ok 4 (c' := (8, [(0, .ref 48), (1, .int (nI 0)), (2, .int (nI 0))], [], u1)) rfl ?_
  refine loop_up (P := fun i => ∀ v : ST, (∃ l, MT (wlo T l) v) → QM S v → BX me_R_neverNow 7 none (fun r u => r = some (.int (nI (bst (fun i => fitb (wlo T (2 ^ i)) (vo (wlo T (2 ^ i)) 24) G G.1) (tne T)))) ∧ QM S u) (8, [(0, .ref 48), (1, .int (nI (bst (fun i => fitb (wlo T (2 ^ i)) (vo (wlo T (2 ^ i)) 24) G G.1) i))), (2, .int (nI i))], [], v)) (tne T) ?_ ?_ 0 (by omega) _ ⟨tlo T, hTu1⟩ hQu1
  · intro v hI hQv
    have f10 := (hL.stay hQv).2.2.2.2.2.2.2.2.1
    refine run_ok 3 (c' := (13, [(0, .ref 48), (1, .int (nI (bst (fun i => fitb (wlo T (2 ^ i)) (vo (wlo T (2 ^ i)) 24) G G.1) (tne T)))), (2, .int (nI (tne T)))], [.int (v.1 48 10), .int (nI (tne T))], v)) rfl ?_
    refine x_top (v' := nI (tne T)) f10 ?_
    refine x_icmpN_ge 46 rfl rfl (by omega) (by omega) (fun h13 => ?_) (fun hn => absurd (Nat.le_refl _) hn)
    refine run_ok 1 (c' := (47, [(0, .ref 48), (1, .int (nI (bst (fun i => fitb (wlo T (2 ^ i)) (vo (wlo T (2 ^ i)) 24) G G.1) (tne T)))), (2, .int (nI (tne T)))], [.int (nI (bst (fun i => fitb (wlo T (2 ^ i)) (vo (wlo T (2 ^ i)) 24) G G.1) (tne T)))], v)) rfl ?_
    exact x_ret (r := some (.int (nI (bst (fun i => fitb (wlo T (2 ^ i)) (vo (wlo T (2 ^ i)) 24) G G.1) (tne T))))) rfl rfl trivial ⟨rfl, hQv⟩ rfl
  · intro i hi ih v hI hQv
    have f10 := (hL.stay hQv).2.2.2.2.2.2.2.2.1
    obtain ⟨l, hTl⟩ := hI
    refine run_ok 3 (c' := (13, [(0, .ref 48), (1, .int (nI (bst (fun i => fitb (wlo T (2 ^ i)) (vo (wlo T (2 ^ i)) 24) G G.1) i))), (2, .int (nI i))], [.int (v.1 48 10), .int (nI i)], v)) rfl ?_
    refine x_top (v' := nI (tne T)) f10 ?_
    refine x_icmpN_ge 46 rfl rfl (by omega) (by omega) (fun hn => absurd hn (show ¬ tne T ≤ i by omega)) (fun h13 => ?_)
    refine run_ok 4 (c' := (20, [(0, .ref 48), (1, .int (nI (bst (fun i => fitb (wlo T (2 ^ i)) (vo (wlo T (2 ^ i)) 24) G G.1) i))), (2, .int (nI i))], [.int ((nI 1) <<< ((nI i) &&& 31)), .ref 48], v)) rfl ?_
    refine x_top (v' := nI (2 ^ i)) (sh1 (by omega)) ?_
    refine run_ok 3 (c' := (25, [(0, .ref 48), (1, .int (nI (bst (fun i => fitb (wlo T (2 ^ i)) (vo (wlo T (2 ^ i)) 24) G G.1) i))), (2, .int (nI i))], [.ref 48, .int (nI (bst (fun i => fitb (wlo T (2 ^ i)) (vo (wlo T (2 ^ i)) 24) G G.1) i))], (pt v 48 18 (nI (2 ^ i))))) rfl ?_
    refine x_callV [] rfl cv_R_isSeen.1 lk_7_287 cv_R_isSeen.2.1 cv_R_isSeen.2.2.1 rfl cv_R_isSeen.2.2.2.1 rfl rfl (Nat.le_of_ble_eq_true rfl) (by decide) cv_R_isSeen.2.2.2.2 (m_isSeen (pt v 48 18 (nI (2 ^ i))) (wlo T (2 ^ i)) (MT_lo hTl) (tok_wlo hto (p9 (by omega))) G (hg.stay (hQv.fld (by decide))) hgo) ?_
    rintro r u2 ⟨hr, hCu2, hTu2, hfu2, h8u2, h2u2⟩
    rw [hr]
    clear hr r
    have hQu2 : QM S u2 := (hQv.fld (by decide)).tr (QM.of hfu2 h8u2 h2u2 (by decide) (by decide))
    refine x_ifB_eq 37 rfl rfl (fun h28 => ?_) (fun h28 => ?_)
    · refine run_ok 2 (c' := (39, [(0, .ref 48), (1, .int (nI (bst (fun i => fitb (wlo T (2 ^ i)) (vo (wlo T (2 ^ i)) 24) G G.1) i))), (2, .int (nI i))], [.int ((nI (bst (fun i => fitb (wlo T (2 ^ i)) (vo (wlo T (2 ^ i)) 24) G G.1) i)) ||| (nI 0))], u2)) rfl ?_
      refine x_top (v' := nI (bst (fun i => fitb (wlo T (2 ^ i)) (vo (wlo T (2 ^ i)) 24) G G.1) i)) (or_z _) ?_
      refine run_ok 2 (c' := (43, [(0, .ref 48), (1, .int (nI (bst (fun i => fitb (wlo T (2 ^ i)) (vo (wlo T (2 ^ i)) 24) G G.1) i))), (2, .int (nI i + nI 1))], [], u2)) rfl ?_
      rw [nI_add i 1]
      refine run_ok 1 (c' := (8, [(0, .ref 48), (1, .int (nI (bst (fun i => fitb (wlo T (2 ^ i)) (vo (wlo T (2 ^ i)) 24) G G.1) i))), (2, .int (nI (i + 1)))], [], u2)) rfl ?_
      refine x_less [0, 1, 2] rfl ?_
      rw [show bst (fun i => fitb (wlo T (2 ^ i)) (vo (wlo T (2 ^ i)) 24) G G.1) (i + 1) = bst (fun i => fitb (wlo T (2 ^ i)) (vo (wlo T (2 ^ i)) 24) G G.1) i from bst_z (Bool.eq_false_iff.mpr h28)] at ih
      exact ih _ ⟨_, hTu2⟩ hQu2
    · refine run_ok 5 (c' := (39, [(0, .ref 48), (1, .int (nI (bst (fun i => fitb (wlo T (2 ^ i)) (vo (wlo T (2 ^ i)) 24) G G.1) i))), (2, .int (nI i))], [.int ((nI (bst (fun i => fitb (wlo T (2 ^ i)) (vo (wlo T (2 ^ i)) 24) G G.1) i)) ||| ((nI 1) <<< ((nI i) &&& 31)))], u2)) rfl ?_
      refine x_top (v' := nI (bst (fun i => fitb (wlo T (2 ^ i)) (vo (wlo T (2 ^ i)) 24) G G.1) i + 1 * 2 ^ i)) (or_bit (bst_lt _ _) (by omega)) ?_
      refine run_ok 2 (c' := (43, [(0, .ref 48), (1, .int (nI (bst (fun i => fitb (wlo T (2 ^ i)) (vo (wlo T (2 ^ i)) 24) G G.1) i + 1 * 2 ^ i))), (2, .int (nI i + nI 1))], [], u2)) rfl ?_
      rw [nI_add i 1]
      refine run_ok 1 (c' := (8, [(0, .ref 48), (1, .int (nI (bst (fun i => fitb (wlo T (2 ^ i)) (vo (wlo T (2 ^ i)) 24) G G.1) i + 1 * 2 ^ i))), (2, .int (nI (i + 1)))], [], u2)) rfl ?_
      refine x_less [0, 1, 2] rfl ?_
      rw [show bst (fun i => fitb (wlo T (2 ^ i)) (vo (wlo T (2 ^ i)) 24) G G.1) (i + 1) = bst (fun i => fitb (wlo T (2 ^ i)) (vo (wlo T (2 ^ i)) 24) G G.1) i + 1 * 2 ^ i from bst_s h28] at ih
      exact ih _ ⟨_, hTu2⟩ hQu2

set_option maxHeartbeats 2000000 in
theorem m_never (S : ST) (T : TD) (n : Nat) (b : Nat → Nat) (n' : Nat) (b' : Nat → Nat) (hL : ML T n b n' b' S) (hto : tok T) (G : SD) (hg : SM G S) (hgo : sok G) : EX me_R_never 8 [.ref 48] S (fun r u => r = some (.int (nI (bst (fun i => fitb (wlo T (2 ^ i)) (vo (wlo T (2 ^ i)) 24) G G.1) (tne T)))) ∧ QM S u) := by
  refine EX.of mok_R_never (Nat.le_of_ble_eq_true rfl) ?_
  refine run_ok 1 (c' := (1, [(0, .ref 48)], [.ref 48], S)) rfl ?_
  refine x_callV [] rfl cv_R_neverNow.1 lk_7_291 cv_R_neverNow.2.1 cv_R_neverNow.2.2.1 rfl cv_R_neverNow.2.2.2.1 rfl rfl (Nat.le_of_ble_eq_true rfl) (by decide) cv_R_neverNow.2.2.2.2 (m_neverNow S T n b n' b' (hL.stay QM.rf) hto G (hg.stay QM.rf) hgo) ?_
  rintro r u1 ⟨hr, hqu1⟩
  rw [hr]
  clear hr r
  have hQu1 : QM S u1 := QM.rf.tr hqu1
  exact x_ret (r := some (.int (nI (bst (fun i => fitb (wlo T (2 ^ i)) (vo (wlo T (2 ^ i)) 24) G G.1) (tne T))))) rfl rfl trivial ⟨rfl, hQu1⟩ rfl

def SI (T : TD) (k : Nat) (u : ST) : Prop := ∃ x, MT (wso T (upn (tso T) k x)) u
theorem SI.ev {T : TD} {k w : Nat} {u : ST} (h : SI T k u) : MT (wso T (upn (tso T) k w)) (pt u 53 k (nI w)) := by
  obtain ⟨x, h1, h2, h3, h4, h5, h6, h7, h8, h9, ha, hb⟩ := h
  refine ⟨h1.ne (by decide), h2.put.cg (fun j hj => ?_), h3.ne (by decide), h4.ne (by decide), h5.ne (by decide), h6.ne (by decide), h7.ne (by decide), h8.ne (by decide), h9, ha, hb⟩
  show upn (tso T) k w j = upn (upn (tso T) k x) k w j
  unfold upn
  split <;> rfl
theorem upn_i (f : Nat → Nat) (k j : Nat) : upn f k (f k) j = f j := by
  unfold upn
  split
  · rename_i e; rw [e]
  · rfl
theorem MT.si {T : TD} {k : Nat} {u : ST} (h : MT T u) : SI T k u := by
  obtain ⟨h1, h2, h3, h4, h5, h6, h7, h8, h9, ha, hb⟩ := h
  exact ⟨tso T k, h1, h2.cg (fun j _ => upn_i (tso T) k j), h3, h4, h5, h6, h7, h8, h9, ha, hb⟩
set_option maxHeartbeats 2000000 in
theorem m_sortsBy (S : ST) (T : TD) (n : Nat) (b : Nat → Nat) (n' : Nat) (b' : Nat → Nat) (hL : ML T n b n' b' S) (hto : tok T) (G : SD) (hg : SM G S) (hgo : sok G) (k : Nat) (hk : k < tnb T) : EX me_R_sortsBy 7 [.ref 48, .int (nI k)] S (fun r u => r = some (.int (nI (bst (fun i => fitb (wso T (upn (tso T) k i)) (vo (wso T (upn (tso T) k i)) 24) G G.1) 3))) ∧ QM S u) := by
  refine EX.of mok_R_sortsBy (Nat.le_of_ble_eq_true rfl) ?_
  have n8 := hto.1
  refine run_ok 1 (c' := (1, [(0, .ref 48), (1, .int (nI k))], [.ref 48], S)) rfl ?_
  refine x_callV [] rfl cv_R_asTold.1 lk_7_220 cv_R_asTold.2.1 cv_R_asTold.2.2.1 rfl cv_R_asTold.2.2.2.1 rfl rfl (Nat.le_of_ble_eq_true rfl) (by decide) cv_R_asTold.2.2.2.2 (m_asTold S T n b n' b' (hL.stay QM.rf) hto) ?_
  rintro r u1 ⟨hr, hTu1, hRu1, hqu1⟩
  rw [hr]
  clear hr r
  have hQu1 : QM S u1 := QM.rf.tr hqu1
  obtain ⟨t1, t2, t3, t4, t5, t6, t7, t8, t9, t10, t11⟩ := id hTu1
  refine run_ok 3 (c' := (9, [(0, .ref 48), (1, .int (nI k))], [.int (nI k), .ref 53], u1)) rfl ?_
  refine x_iaN (nI (tso T k)) rfl rfl (by decide) (by omega) (t2 k (by omega)) ?_
  refine run_ok 5 (c' := (16, [(0, .ref 48), (1, .int (nI k)), (2, .int (nI (tso T k))), (3, .int (nI 0)), (4, .int (nI 0))], [], u1)) rfl ?_
  refine loop_up (P := fun i => ∀ v : ST, SI T k v → QM S v → BX me_R_sortsBy 7 none (fun r u => r = some (.int (nI (bst (fun i => fitb (wso T (upn (tso T) k i)) (vo (wso T (upn (tso T) k i)) 24) G G.1) 3))) ∧ QM S u) (16, [(0, .ref 48), (1, .int (nI k)), (2, .int (nI (tso T k))), (3, .int (nI (bst (fun i => fitb (wso T (upn (tso T) k i)) (vo (wso T (upn (tso T) k i)) 24) G G.1) i))), (4, .int (nI i))], [], v)) (3) ?_ ?_ 0 (by omega) _ hTu1.si hQu1
  · intro v hI hQv
    refine run_ok 2 (c' := (19, [(0, .ref 48), (1, .int (nI k)), (2, .int (nI (tso T k))), (3, .int (nI (bst (fun i => fitb (wso T (upn (tso T) k i)) (vo (wso T (upn (tso T) k i)) 24) G G.1) 3))), (4, .int (nI 3))], [.int (nI 3), .int (nI 3)], v)) rfl ?_
    refine x_icmpN_ge 54 rfl rfl (by omega) (by omega) (fun h19 => ?_) (fun hn => absurd (Nat.le_refl _) hn)
    refine run_ok 4 (c' := (60, [(0, .ref 48), (1, .int (nI k)), (2, .int (nI (tso T k))), (3, .int (nI (bst (fun i => fitb (wso T (upn (tso T) k i)) (vo (wso T (upn (tso T) k i)) 24) G G.1) 3))), (4, .int (nI 3))], [.int (nI (tso T k)), .int (nI k), .ref 53], v)) rfl ?_
    refine x_isN rfl rfl (by decide) (by omega) ?_
    refine run_ok 1 (c' := (62, [(0, .ref 48), (1, .int (nI k)), (2, .int (nI (tso T k))), (3, .int (nI (bst (fun i => fitb (wso T (upn (tso T) k i)) (vo (wso T (upn (tso T) k i)) 24) G G.1) 3))), (4, .int (nI 3))], [.int (nI (bst (fun i => fitb (wso T (upn (tso T) k i)) (vo (wso T (upn (tso T) k i)) 24) G G.1) 3))], (pt v 53 k (nI (tso T k))))) rfl ?_
    exact x_ret (r := some (.int (nI (bst (fun i => fitb (wso T (upn (tso T) k i)) (vo (wso T (upn (tso T) k i)) 24) G G.1) 3)))) rfl rfl trivial ⟨rfl, (hQv.cel (by decide) (by decide))⟩ rfl
  · intro i hi ih v hI hQv
    refine run_ok 2 (c' := (19, [(0, .ref 48), (1, .int (nI k)), (2, .int (nI (tso T k))), (3, .int (nI (bst (fun i => fitb (wso T (upn (tso T) k i)) (vo (wso T (upn (tso T) k i)) 24) G G.1) i))), (4, .int (nI i))], [.int (nI 3), .int (nI i)], v)) rfl ?_
    refine x_icmpN_ge 54 rfl rfl (by omega) (by omega) (fun hn => absurd hn (show ¬ 3 ≤ i by omega)) (fun h19 => ?_)
    refine run_ok 4 (c' := (29, [(0, .ref 48), (1, .int (nI k)), (2, .int (nI (tso T k))), (3, .int (nI (bst (fun i => fitb (wso T (upn (tso T) k i)) (vo (wso T (upn (tso T) k i)) 24) G G.1) i))), (4, .int (nI i))], [.int (nI i), .int (nI k), .ref 53], v)) rfl ?_
    refine x_isN rfl rfl (by decide) (by omega) ?_
    refine run_ok 2 (c' := (32, [(0, .ref 48), (1, .int (nI k)), (2, .int (nI (tso T k))), (3, .int (nI (bst (fun i => fitb (wso T (upn (tso T) k i)) (vo (wso T (upn (tso T) k i)) 24) G G.1) i))), (4, .int (nI i))], [.ref 48, .int (nI (bst (fun i => fitb (wso T (upn (tso T) k i)) (vo (wso T (upn (tso T) k i)) 24) G G.1) i))], (pt v 53 k (nI i)))) rfl ?_
    refine x_callV [] rfl cv_R_isSeen.1 lk_7_287 cv_R_isSeen.2.1 cv_R_isSeen.2.2.1 rfl cv_R_isSeen.2.2.2.1 rfl rfl (Nat.le_of_ble_eq_true rfl) (by decide) cv_R_isSeen.2.2.2.2 (m_isSeen (pt v 53 k (nI i)) (wso T (upn (tso T) k i)) hI.ev (tok_wso hto (by omega)) G (hg.stay (hQv.cel (by decide) (by decide))) hgo) ?_
    rintro r u2 ⟨hr, hCu2, hTu2, hfu2, h8u2, h2u2⟩
    rw [hr]
    clear hr r
    have hQu2 : QM S u2 := (hQv.cel (by decide) (by decide)).tr (QM.of hfu2 h8u2 h2u2 (by decide) (by decide))
    refine x_ifB_eq 45 rfl rfl (fun h35 => ?_) (fun h35 => ?_)
    · refine run_ok 2 (c' := (47, [(0, .ref 48), (1, .int (nI k)), (2, .int (nI (tso T k))), (3, .int (nI (bst (fun i => fitb (wso T (upn (tso T) k i)) (vo (wso T (upn (tso T) k i)) 24) G G.1) i))), (4, .int (nI i))], [.int ((nI (bst (fun i => fitb (wso T (upn (tso T) k i)) (vo (wso T (upn (tso T) k i)) 24) G G.1) i)) ||| (nI 0))], u2)) rfl ?_
      refine x_top (v' := nI (bst (fun i => fitb (wso T (upn (tso T) k i)) (vo (wso T (upn (tso T) k i)) 24) G G.1) i)) (or_z _) ?_
      refine run_ok 2 (c' := (51, [(0, .ref 48), (1, .int (nI k)), (2, .int (nI (tso T k))), (3, .int (nI (bst (fun i => fitb (wso T (upn (tso T) k i)) (vo (wso T (upn (tso T) k i)) 24) G G.1) i))), (4, .int (nI i + nI 1))], [], u2)) rfl ?_
      rw [nI_add i 1]
      refine run_ok 1 (c' := (16, [(0, .ref 48), (1, .int (nI k)), (2, .int (nI (tso T k))), (3, .int (nI (bst (fun i => fitb (wso T (upn (tso T) k i)) (vo (wso T (upn (tso T) k i)) 24) G G.1) i))), (4, .int (nI (i + 1)))], [], u2)) rfl ?_
      refine x_less [0, 1, 2, 3, 4] rfl ?_
      rw [show bst (fun i => fitb (wso T (upn (tso T) k i)) (vo (wso T (upn (tso T) k i)) 24) G G.1) (i + 1) = bst (fun i => fitb (wso T (upn (tso T) k i)) (vo (wso T (upn (tso T) k i)) 24) G G.1) i from bst_z (Bool.eq_false_iff.mpr h35)] at ih
      exact ih _ ⟨_, hTu2⟩ hQu2
    · refine run_ok 5 (c' := (47, [(0, .ref 48), (1, .int (nI k)), (2, .int (nI (tso T k))), (3, .int (nI (bst (fun i => fitb (wso T (upn (tso T) k i)) (vo (wso T (upn (tso T) k i)) 24) G G.1) i))), (4, .int (nI i))], [.int ((nI (bst (fun i => fitb (wso T (upn (tso T) k i)) (vo (wso T (upn (tso T) k i)) 24) G G.1) i)) ||| ((nI 1) <<< ((nI i) &&& 31)))], u2)) rfl ?_
      refine x_top (v' := nI (bst (fun i => fitb (wso T (upn (tso T) k i)) (vo (wso T (upn (tso T) k i)) 24) G G.1) i + 1 * 2 ^ i)) (or_bit (bst_lt _ _) (by omega)) ?_
      refine run_ok 2 (c' := (51, [(0, .ref 48), (1, .int (nI k)), (2, .int (nI (tso T k))), (3, .int (nI (bst (fun i => fitb (wso T (upn (tso T) k i)) (vo (wso T (upn (tso T) k i)) 24) G G.1) i + 1 * 2 ^ i))), (4, .int (nI i + nI 1))], [], u2)) rfl ?_
      rw [nI_add i 1]
      refine run_ok 1 (c' := (16, [(0, .ref 48), (1, .int (nI k)), (2, .int (nI (tso T k))), (3, .int (nI (bst (fun i => fitb (wso T (upn (tso T) k i)) (vo (wso T (upn (tso T) k i)) 24) G G.1) i + 1 * 2 ^ i))), (4, .int (nI (i + 1)))], [], u2)) rfl ?_
      refine x_less [0, 1, 2, 3, 4] rfl ?_
      rw [show bst (fun i => fitb (wso T (upn (tso T) k i)) (vo (wso T (upn (tso T) k i)) 24) G G.1) (i + 1) = bst (fun i => fitb (wso T (upn (tso T) k i)) (vo (wso T (upn (tso T) k i)) 24) G G.1) i + 1 * 2 ^ i from bst_s h35] at ih
      exact ih _ ⟨_, hTu2⟩ hQu2

set_option maxHeartbeats 2000000 in
theorem m_sort_ok (S : ST) (T : TD) (n : Nat) (b : Nat → Nat) (n' : Nat) (b' : Nat → Nat) (hL : ML T n b n' b' S) (hto : tok T) (G : SD) (hg : SM G S) (hgo : sok G) (k : Nat) (hk : k < tnb T) : EX me_R_sort 8 [.ref 48, .int (nI k)] S (fun r u => r = some (.int (nI (bst (fun i => fitb (wso T (upn (tso T) k i)) (vo (wso T (upn (tso T) k i)) 24) G G.1) 3))) ∧ QM S u) := by
  refine EX.of mok_R_sort (Nat.le_of_ble_eq_true rfl) ?_
  have n8 := hto.1
  refine run_ok 2 (c' := (2, [(0, .ref 48), (1, .int (nI k))], [.int (nI k), .ref 48], S)) rfl ?_
  refine x_callV [.int (nI k)] rfl cv_R_isBoat.1 lk_7_163 cv_R_isBoat.2.1 cv_R_isBoat.2.2.1 rfl cv_R_isBoat.2.2.2.1 rfl rfl (Nat.le_of_ble_eq_true rfl) (by decide) cv_R_isBoat.2.2.2.2 (m_isBoat S T n b n' b' (hL.stay QM.rf) hto (nI k)) ?_
  rintro r u1 ⟨hr, hRu1, hqu1⟩
  rw [hr]
  clear hr r
  have hQu1 : QM S u1 := QM.rf.tr hqu1
  refine x_ifB_eq 16 rfl rfl (fun hn => absurd hn (fun z => z (inr_t hk (by omega)))) (fun h5 => ?_)
  refine run_ok 2 (c' := (10, [(0, .ref 48), (1, .int (nI k))], [.int (nI k), .ref 48], u1)) rfl ?_
  refine x_callV [.int (nI k)] rfl cv_R_sortsBy.1 lk_7_294 cv_R_sortsBy.2.1 cv_R_sortsBy.2.2.1 rfl cv_R_sortsBy.2.2.2.1 rfl rfl (Nat.le_of_ble_eq_true rfl) (by decide) cv_R_sortsBy.2.2.2.2 (m_sortsBy u1 T n b n' b' (hL.stay hQu1) hto G (hg.stay hQu1) hgo k hk) ?_
  rintro r u2 ⟨hr, hqu2⟩
  rw [hr]
  clear hr r
  have hQu2 : QM S u2 := hQu1.tr hqu2
  refine run_ok 1 (c' := (18, [(0, .ref 48), (1, .int (nI k))], [.int (nI (bst (fun i => fitb (wso T (upn (tso T) k i)) (vo (wso T (upn (tso T) k i)) 24) G G.1) 3))], u2)) rfl ?_
  exact x_ret (r := some (.int (nI (bst (fun i => fitb (wso T (upn (tso T) k i)) (vo (wso T (upn (tso T) k i)) 24) G G.1) 3)))) rfl rfl trivial ⟨rfl, hQu2⟩ rfl

set_option maxHeartbeats 2000000 in
theorem m_sort_bad (S : ST) (T : TD) (n : Nat) (b : Nat → Nat) (n' : Nat) (b' : Nat → Nat) (hL : ML T n b n' b' S) (hto : tok T) (x : Int32) (hbad : ¬ (0 ≤ x ∧ x < nI (tnb T))) : EX me_R_sort 8 [.ref 48, .int x] S (fun r u => r = some (.int ((-2))) ∧ QM S u) := by
  refine EX.of mok_R_sort (Nat.le_of_ble_eq_true rfl) ?_
  refine run_ok 2 (c' := (2, [(0, .ref 48), (1, .int x)], [.int x, .ref 48], S)) rfl ?_
  refine x_callV [.int x] rfl cv_R_isBoat.1 lk_7_163 cv_R_isBoat.2.1 cv_R_isBoat.2.2.1 rfl cv_R_isBoat.2.2.2.1 rfl rfl (Nat.le_of_ble_eq_true rfl) (by decide) cv_R_isBoat.2.2.2.2 (m_isBoat S T n b n' b' (hL.stay QM.rf) hto (x)) ?_
  rintro r u1 ⟨hr, hRu1, hqu1⟩
  rw [hr]
  clear hr r
  have hQu1 : QM S u1 := QM.rf.tr hqu1
  refine x_ifB_eq 16 rfl rfl (fun h5 => ?_) (fun h5 => ?_)
  · refine run_ok 1 (c' := (18, [(0, .ref 48), (1, .int x)], [.int (-2)], u1)) rfl ?_
    exact x_ret (r := some (.int (-2))) rfl rfl trivial ⟨rfl, hQu1⟩ rfl
  · exact absurd h5 hbad

def nx (n : Nat) : Nat := if n = 8 then 0 else n + 1
theorem nx_lt {n : Nat} (h : n ≤ 8) : nx n < 16 := by
  unfold nx
  split <;> omega
theorem nmv_nx : ∀ n, n < 9 → nmv n + nI 1 = nI (nx n) := by decide +kernel
def nwf (T : TD) (w : Nat) : Nat := nro (fun k => nx (vnm (vo T (w + 1)) k)) (tnb T)
/-- the names by how much one hated, week by week, below n -/
def NB (F : Nat → Nat → Nat) (n : Nat) (u : ST) : Prop := ∀ i, i < 10 → ∀ w, w < 24 → 24 * i + w < n → u.1 77 (24 * i + w) = nI (F i w)
theorem NB.next {F : Nat → Nat → Nat} {i w : Nat} {u : ST} (hw : w < 24) (h : NB F (24 * i + w) u) : NB F (24 * i + (w + 1)) (pt u 77 (24 * i + w) (nI (F i w))) := by
  intro a ha c hc hn
  rw [pt_at]
  unfold upd
  by_cases e : 24 * a + c = 24 * i + w
  · rw [if_pos e, show a = i by omega, show c = w by omega]
  · rw [if_neg e]
    exact h a ha c hc (by omega)
theorem NB.keep {F : Nat → Nat → Nat} {n : Nat} {u v : ST} {ks : List Nat} (h : NB F n u) (hf : fr ks u v) (hk : 77 ∉ ks) : NB F n v := fun i hi w hw hn => by rw [hf 77 hk]; exact h i hi w hw hn
theorem NB.cel {F : Nat → Nat → Nat} {n : Nat} {u : ST} {k e : Nat} {x : Int32} (h : NB F n u) (hk : 77 ≠ k) : NB F n (pt u k e x) := fun i hi w hw hn => by
  rw [show (pt u k e x).1 77 = u.1 77 from if_neg hk]
  exact h i hi w hw hn
set_option maxHeartbeats 2000000 in
theorem m_namesAll (S : ST) (T : TD) (hT : MT T S) (hC : RC T 24 S) (hto : tok T) (w : Nat) (hw : w < 24)  : EX me_R_namesAll 0 [.ref 48, .int (nI w)] S (fun r u => r = some (.int (nI (nwf T w))) ∧ u = S) := by
  refine EX.of mok_R_namesAll (Nat.le_of_ble_eq_true rfl) ?_
  have n8 := hto.1
  obtain ⟨t1, t2, t3, t4, t5, t6, t7, t8, t9, t10, t11⟩ := id hT
  refine run_ok 4 (c' := (4, [(0, .ref 48), (1, .int (nI w)), (2, .int (nI 0)), (3, .int (nI 0))], [], S)) rfl ?_
  refine loop_up (P := fun i => BX me_R_namesAll 0 none (fun r u => r = some (.int (nI (nwf T w))) ∧ u = S) (4, [(0, .ref 48), (1, .int (nI w)), (2, .int (nI (nro (fun k => nx (vnm (vo T (w + 1)) k)) i))), (3, .int (nI i))], [], S)) (tnb T) ?_ ?_ 0 (by omega)
  · skip
    refine run_ok 3 (c' := (9, [(0, .ref 48), (1, .int (nI w)), (2, .int (nI (nro (fun k => nx (vnm (vo T (w + 1)) k)) (tnb T)))), (3, .int (nI (tnb T)))], [.int (S.1 48 5), .int (nI (tnb T))], S)) rfl ?_
    refine x_top (v' := nI (tnb T)) t9 ?_
    refine x_icmpN_ge 38 rfl rfl (by omega) (by omega) (fun h9 => ?_) (fun hn => absurd (Nat.le_refl _) hn)
    refine run_ok 1 (c' := (39, [(0, .ref 48), (1, .int (nI w)), (2, .int (nI (nro (fun k => nx (vnm (vo T (w + 1)) k)) (tnb T)))), (3, .int (nI (tnb T)))], [.int (nI (nro (fun k => nx (vnm (vo T (w + 1)) k)) (tnb T)))], S)) rfl ?_
    exact x_ret (r := some (.int (nI (nro (fun k => nx (vnm (vo T (w + 1)) k)) (tnb T))))) rfl rfl trivial ⟨rfl, rfl⟩ rfl
  · intro i hi ih
    have q1 := ((vk_vo hto (w + 1) (by omega)).1.2.1 i (by omega)).2.1
    refine run_ok 3 (c' := (9, [(0, .ref 48), (1, .int (nI w)), (2, .int (nI (nro (fun k => nx (vnm (vo T (w + 1)) k)) i))), (3, .int (nI i))], [.int (S.1 48 5), .int (nI i)], S)) rfl ?_
    refine x_top (v' := nI (tnb T)) t9 ?_
    refine x_icmpN_ge 38 rfl rfl (by omega) (by omega) (fun hn => absurd hn (show ¬ tnb T ≤ i by omega)) (fun h9 => ?_)
    refine run_ok 6 (c' := (21, [(0, .ref 48), (1, .int (nI w)), (2, .int (nI (nro (fun k => nx (vnm (vo T (w + 1)) k)) i))), (3, .int (nI i))], [.int ((nI 8) * (nI w)), .ref 69, .int (nI (nro (fun k => nx (vnm (vo T (w + 1)) k)) i))], S)) rfl ?_
    refine x_top (v' := nI (8 * w)) (pk_mul _ _) ?_
    refine run_ok 2 (c' := (23, [(0, .ref 48), (1, .int (nI w)), (2, .int (nI (nro (fun k => nx (vnm (vo T (w + 1)) k)) i))), (3, .int (nI i))], [.int ((nI (8 * w)) + (nI i)), .ref 69, .int (nI (nro (fun k => nx (vnm (vo T (w + 1)) k)) i))], S)) rfl ?_
    refine x_top (v' := nI ((8 * w) + i)) (nI_add _ _) ?_
    refine x_iaN (nmv (vnm (vo T (w + 1)) i)) rfl rfl (by decide) (by omega) (hC.1 w hw i hi).2.1 ?_
    refine run_ok 2 (c' := (26, [(0, .ref 48), (1, .int (nI w)), (2, .int (nI (nro (fun k => nx (vnm (vo T (w + 1)) k)) i))), (3, .int (nI i))], [.int ((nmv (vnm (vo T (w + 1)) i)) + (nI 1)), .int (nI (nro (fun k => nx (vnm (vo T (w + 1)) k)) i))], S)) rfl ?_
    refine x_top (v' := nI (nx (vnm (vo T (w + 1)) i))) (nmv_nx _ (by omega)) ?_
    refine run_ok 3 (c' := (29, [(0, .ref 48), (1, .int (nI w)), (2, .int (nI (nro (fun k => nx (vnm (vo T (w + 1)) k)) i))), (3, .int (nI i))], [.int ((nI 4) * (nI i)), .int (nI (nx (vnm (vo T (w + 1)) i))), .int (nI (nro (fun k => nx (vnm (vo T (w + 1)) k)) i))], S)) rfl ?_
    refine x_top (v' := nI (4 * i)) (pk_mul _ _) ?_
    refine run_ok 2 (c' := (31, [(0, .ref 48), (1, .int (nI w)), (2, .int (nI (nro (fun k => nx (vnm (vo T (w + 1)) k)) i))), (3, .int (nI i))], [.int ((nI (nro (fun k => nx (vnm (vo T (w + 1)) k)) i)) ||| ((nI (nx (vnm (vo T (w + 1)) i))) <<< ((nI (4 * i)) &&& 31)))], S)) rfl ?_
    refine x_top (v' := nI (nro (fun k => nx (vnm (vo T (w + 1)) k)) i + nx (vnm (vo T (w + 1)) i) * 16 ^ i)) (nro_or (nro_lt (fun k hk => nx_lt ((vk_vo hto (w + 1) (by omega)).1.2.1 k (by omega)).2.1)) (nx_lt q1) (by omega)) ?_
    refine run_ok 2 (c' := (35, [(0, .ref 48), (1, .int (nI w)), (2, .int (nI (nro (fun k => nx (vnm (vo T (w + 1)) k)) i + nx (vnm (vo T (w + 1)) i) * 16 ^ i))), (3, .int (nI i + nI 1))], [], S)) rfl ?_
    rw [nI_add i 1]
    refine run_ok 1 (c' := (4, [(0, .ref 48), (1, .int (nI w)), (2, .int (nI (nro (fun k => nx (vnm (vo T (w + 1)) k)) i + nx (vnm (vo T (w + 1)) i) * 16 ^ i))), (3, .int (nI (i + 1)))], [], S)) rfl ?_
    refine x_less [0, 1, 2, 3] rfl ?_
    exact ih

def HI (T : TD) (j : Nat) (u : ST) : Prop := ∃ x, MT (wh T (upn (th T) j x)) u
theorem HI.ev {T : TD} {j w : Nat} {u : ST} (h : HI T j u) : MT (wh T (upn (th T) j w)) (pt u 52 j (nI w)) := by
  obtain ⟨x, h1, h2, h3, h4, h5, h6, h7, h8, h9, ha, hb⟩ := h
  refine ⟨h1.put.cg (fun i hi => ?_), h2.ne (by decide), h3.ne (by decide), h4.ne (by decide), h5.ne (by decide), h6.ne (by decide), h7.ne (by decide), h8.ne (by decide), h9, ha, hb⟩
  show upn (th T) j w i = upn (upn (th T) j x) j w i
  unfold upn
  split <;> rfl
theorem MT.hi {T : TD} {j : Nat} {u : ST} (h : MT T u) : HI T j u := by
  obtain ⟨h1, h2, h3, h4, h5, h6, h7, h8, h9, ha, hb⟩ := h
  exact ⟨th T j, h1.cg (fun i _ => upn_i (th T) j i), h2, h3, h4, h5, h6, h7, h8, h9, ha, hb⟩
def nwh (T : TD) (p q : Nat) (i w : Nat) : Nat := nwf (wh T (upn (th T) (8 * p + q) i)) w
set_option maxHeartbeats 2000000 in
theorem m_hatedBy (S : ST) (T : TD) (n : Nat) (b : Nat → Nat) (n' : Nat) (b' : Nat → Nat) (hL : ML T n b n' b' S) (hto : tok T) (G : SD) (hg : SM G S) (hgo : sok G) (p q : Nat) (hp : p < 8) (hq8 : q < 8) : EX me_R_hatedBy 7 [.ref 48, .int (nI p), .int (nI q)] S (fun r u => r = some (.int (nI (bst (fun i => fitb (wh T (upn (th T) (8 * p + q) i)) (vo (wh T (upn (th T) (8 * p + q) i)) 24) G G.1) 10))) ∧ NB (nwh T p q) 240 u ∧ QM S u) := by
  refine EX.of mok_R_hatedBy (Nat.le_of_ble_eq_true rfl) ?_
  refine run_ok 1 (c' := (1, [(0, .ref 48), (1, .int (nI p)), (2, .int (nI q))], [.ref 48], S)) rfl ?_
  refine x_callV [] rfl cv_R_asTold.1 lk_7_220 cv_R_asTold.2.1 cv_R_asTold.2.2.1 rfl cv_R_asTold.2.2.2.1 rfl rfl (Nat.le_of_ble_eq_true rfl) (by decide) cv_R_asTold.2.2.2.2 (m_asTold S T n b n' b' (hL.stay QM.rf) hto) ?_
  rintro r u1 ⟨hr, hTu1, hRu1, hqu1⟩
  rw [hr]
  clear hr r
  have hQu1 : QM S u1 := QM.rf.tr hqu1
  obtain ⟨t1, t2, t3, t4, t5, t6, t7, t8, t9, t10, t11⟩ := id hTu1
  refine run_ok 3 (c' := (8, [(0, .ref 48), (1, .int (nI p)), (2, .int (nI q))], [.int ((nI 8) * (nI p))], u1)) rfl ?_
  refine x_top (v' := nI (8 * p)) (pk_mul _ _) ?_
  refine run_ok 2 (c' := (10, [(0, .ref 48), (1, .int (nI p)), (2, .int (nI q))], [.int ((nI (8 * p)) + (nI q))], u1)) rfl ?_
  refine x_top (v' := nI ((8 * p) + q)) (nI_add _ _) ?_
  refine run_ok 4 (c' := (16, [(0, .ref 48), (1, .int (nI p)), (2, .int (nI q)), (3, .int (nI ((8 * p) + q)))], [.int (nI ((8 * p) + q)), .ref 52], u1)) rfl ?_
  refine x_iaN (nI (th T ((8 * p) + q))) rfl rfl (by decide) (by omega) (t1 ((8 * p) + q) (by omega)) ?_
  refine run_ok 5 (c' := (25, [(0, .ref 48), (1, .int (nI p)), (2, .int (nI q)), (3, .int (nI ((8 * p) + q))), (4, .int (nI (th T ((8 * p) + q)))), (5, .int (nI 0)), (6, .int (nI 0))], [], u1)) rfl ?_
  refine loop_up (P := fun i => ∀ v : ST, (HI T (8 * p + q) v ∧ NB (nwh T p q) (24 * i) v) → QM S v → BX me_R_hatedBy 7 none (fun r u => r = some (.int (nI (bst (fun i => fitb (wh T (upn (th T) (8 * p + q) i)) (vo (wh T (upn (th T) (8 * p + q) i)) 24) G G.1) 10))) ∧ NB (nwh T p q) 240 u ∧ QM S u) (25, [(0, .ref 48), (1, .int (nI p)), (2, .int (nI q)), (3, .int (nI (8 * p + q))), (4, .int (nI (th T (8 * p + q)))), (5, .int (nI (bst (fun i => fitb (wh T (upn (th T) (8 * p + q) i)) (vo (wh T (upn (th T) (8 * p + q) i)) 24) G G.1) i))), (6, .int (nI i))], [], v)) (10) ?_ ?_ 0 (by omega) _ ⟨hTu1.hi, fun _ _ _ _ z => absurd z (Nat.not_lt_zero _)⟩ hQu1
  · intro v hI hQv
    refine run_ok 2 (c' := (29, [(0, .ref 48), (1, .int (nI p)), (2, .int (nI q)), (3, .int (nI (8 * p + q))), (4, .int (nI (th T (8 * p + q)))), (5, .int (nI (bst (fun i => fitb (wh T (upn (th T) (8 * p + q) i)) (vo (wh T (upn (th T) (8 * p + q) i)) 24) G G.1) 10))), (6, .int (nI 10))], [.int (nI 10), .int (nI 10)], v)) rfl ?_
    refine x_icmpN_ge 101 rfl rfl (by omega) (by omega) (fun h29 => ?_) (fun hn => absurd (Nat.le_refl _) hn)
    refine run_ok 4 (c' := (108, [(0, .ref 48), (1, .int (nI p)), (2, .int (nI q)), (3, .int (nI (8 * p + q))), (4, .int (nI (th T (8 * p + q)))), (5, .int (nI (bst (fun i => fitb (wh T (upn (th T) (8 * p + q) i)) (vo (wh T (upn (th T) (8 * p + q) i)) 24) G G.1) 10))), (6, .int (nI 10))], [.int (nI (th T (8 * p + q))), .int (nI (8 * p + q)), .ref 52], v)) rfl ?_
    refine x_isN rfl rfl (by decide) (by omega) ?_
    refine run_ok 1 (c' := (111, [(0, .ref 48), (1, .int (nI p)), (2, .int (nI q)), (3, .int (nI (8 * p + q))), (4, .int (nI (th T (8 * p + q)))), (5, .int (nI (bst (fun i => fitb (wh T (upn (th T) (8 * p + q) i)) (vo (wh T (upn (th T) (8 * p + q) i)) 24) G G.1) 10))), (6, .int (nI 10))], [.int (nI (bst (fun i => fitb (wh T (upn (th T) (8 * p + q) i)) (vo (wh T (upn (th T) (8 * p + q) i)) 24) G G.1) 10))], (pt v 52 (8 * p + q) (nI (th T (8 * p + q)))))) rfl ?_
    exact x_ret (r := some (.int (nI (bst (fun i => fitb (wh T (upn (th T) (8 * p + q) i)) (vo (wh T (upn (th T) (8 * p + q) i)) 24) G G.1) 10)))) rfl rfl trivial ⟨rfl, hI.2.cel (by decide), (hQv.cel (by decide) (by decide))⟩ rfl
  · intro i hi ih v hI hQv
    refine run_ok 2 (c' := (29, [(0, .ref 48), (1, .int (nI p)), (2, .int (nI q)), (3, .int (nI (8 * p + q))), (4, .int (nI (th T (8 * p + q)))), (5, .int (nI (bst (fun i => fitb (wh T (upn (th T) (8 * p + q) i)) (vo (wh T (upn (th T) (8 * p + q) i)) 24) G G.1) i))), (6, .int (nI i))], [.int (nI 10), .int (nI i)], v)) rfl ?_
    refine x_icmpN_ge 101 rfl rfl (by omega) (by omega) (fun hn => absurd hn (show ¬ 10 ≤ i by omega)) (fun h29 => ?_)
    refine run_ok 4 (c' := (39, [(0, .ref 48), (1, .int (nI p)), (2, .int (nI q)), (3, .int (nI (8 * p + q))), (4, .int (nI (th T (8 * p + q)))), (5, .int (nI (bst (fun i => fitb (wh T (upn (th T) (8 * p + q) i)) (vo (wh T (upn (th T) (8 * p + q) i)) 24) G G.1) i))), (6, .int (nI i))], [.int (nI i), .int (nI (8 * p + q)), .ref 52], v)) rfl ?_
    refine x_isN rfl rfl (by decide) (by omega) ?_
    refine run_ok 2 (c' := (43, [(0, .ref 48), (1, .int (nI p)), (2, .int (nI q)), (3, .int (nI (8 * p + q))), (4, .int (nI (th T (8 * p + q)))), (5, .int (nI (bst (fun i => fitb (wh T (upn (th T) (8 * p + q) i)) (vo (wh T (upn (th T) (8 * p + q) i)) 24) G G.1) i))), (6, .int (nI i))], [.ref 48, .int (nI (bst (fun i => fitb (wh T (upn (th T) (8 * p + q) i)) (vo (wh T (upn (th T) (8 * p + q) i)) 24) G G.1) i))], (pt v 52 (8 * p + q) (nI i)))) rfl ?_
    refine x_callV [] rfl cv_R_isSeen.1 lk_7_287 cv_R_isSeen.2.1 cv_R_isSeen.2.2.1 rfl cv_R_isSeen.2.2.2.1 rfl rfl (Nat.le_of_ble_eq_true rfl) (by decide) cv_R_isSeen.2.2.2.2 (m_isSeen (pt v 52 (8 * p + q) (nI i)) (wh T (upn (th T) (8 * p + q) i)) (HI.ev hI.1) (tok_wh hto (by omega)) G (hg.stay (hQv.cel (by decide) (by decide))) hgo) ?_
    rintro r u2 ⟨hr, hCu2, hTu2, hfu2, h8u2, h2u2⟩
    rw [hr]
    clear hr r
    have hQu2 : QM S u2 := (hQv.cel (by decide) (by decide)).tr (QM.of hfu2 h8u2 h2u2 (by decide) (by decide))
    refine x_ifB_eq 56 rfl rfl (fun h46 => ?_) (fun h46 => ?_)
    · refine run_ok 2 (c' := (58, [(0, .ref 48), (1, .int (nI p)), (2, .int (nI q)), (3, .int (nI (8 * p + q))), (4, .int (nI (th T (8 * p + q)))), (5, .int (nI (bst (fun i => fitb (wh T (upn (th T) (8 * p + q) i)) (vo (wh T (upn (th T) (8 * p + q) i)) 24) G G.1) i))), (6, .int (nI i))], [.int ((nI (bst (fun i => fitb (wh T (upn (th T) (8 * p + q) i)) (vo (wh T (upn (th T) (8 * p + q) i)) 24) G G.1) i)) ||| (nI 0))], u2)) rfl ?_
      refine x_top (v' := nI (bst (fun i => fitb (wh T (upn (th T) (8 * p + q) i)) (vo (wh T (upn (th T) (8 * p + q) i)) 24) G G.1) i)) (or_z _) ?_
      refine run_ok 3 (c' := (63, [(0, .ref 48), (1, .int (nI p)), (2, .int (nI q)), (3, .int (nI (8 * p + q))), (4, .int (nI (th T (8 * p + q)))), (5, .int (nI (bst (fun i => fitb (wh T (upn (th T) (8 * p + q) i)) (vo (wh T (upn (th T) (8 * p + q) i)) 24) G G.1) i))), (6, .int (nI i)), (7, .int (nI 0))], [], u2)) rfl ?_
      refine loop_up (P := fun j => ∀ x : ST, (MT (wh T (upn (th T) (8 * p + q) i)) x ∧ RC (wh T (upn (th T) (8 * p + q) i)) 24 x ∧ NB (nwh T p q) (24 * i + j) x) → QM S x → BX me_R_hatedBy 7 none (fun r u => r = some (.int (nI (bst (fun i => fitb (wh T (upn (th T) (8 * p + q) i)) (vo (wh T (upn (th T) (8 * p + q) i)) 24) G G.1) 10))) ∧ NB (nwh T p q) 240 u ∧ QM S u) (63, [(0, .ref 48), (1, .int (nI p)), (2, .int (nI q)), (3, .int (nI (8 * p + q))), (4, .int (nI (th T (8 * p + q)))), (5, .int (nI (bst (fun i => fitb (wh T (upn (th T) (8 * p + q) i)) (vo (wh T (upn (th T) (8 * p + q) i)) 24) G G.1) i))), (6, .int (nI i)), (7, .int (nI j))], [], x)) (24) ?_ ?_ 0 (by omega) _ ⟨hTu2, hCu2, ((hI.2.cel (by decide)).keep hfu2 (by decide))⟩ hQu2
      · intro x hJ hQx
        refine run_ok 2 (c' := (67, [(0, .ref 48), (1, .int (nI p)), (2, .int (nI q)), (3, .int (nI (8 * p + q))), (4, .int (nI (th T (8 * p + q)))), (5, .int (nI (bst (fun i => fitb (wh T (upn (th T) (8 * p + q) i)) (vo (wh T (upn (th T) (8 * p + q) i)) 24) G G.1) i))), (6, .int (nI i)), (7, .int (nI 24))], [.int (nI 24), .int (nI 24)], x)) rfl ?_
        refine x_icmpN_ge 95 rfl rfl (by omega) (by omega) (fun h67 => ?_) (fun hn => absurd (Nat.le_refl _) hn)
        refine run_ok 1 (c' := (98, [(0, .ref 48), (1, .int (nI p)), (2, .int (nI q)), (3, .int (nI (8 * p + q))), (4, .int (nI (th T (8 * p + q)))), (5, .int (nI (bst (fun i => fitb (wh T (upn (th T) (8 * p + q) i)) (vo (wh T (upn (th T) (8 * p + q) i)) 24) G G.1) i))), (6, .int (nI i + nI 1)), (7, .int (nI 24))], [], x)) rfl ?_
        rw [nI_add i 1]
        refine run_ok 1 (c' := (25, [(0, .ref 48), (1, .int (nI p)), (2, .int (nI q)), (3, .int (nI (8 * p + q))), (4, .int (nI (th T (8 * p + q)))), (5, .int (nI (bst (fun i => fitb (wh T (upn (th T) (8 * p + q) i)) (vo (wh T (upn (th T) (8 * p + q) i)) 24) G G.1) i))), (6, .int (nI (i + 1))), (7, .int (nI 24))], [], x)) rfl ?_
        refine x_less [0, 1, 2, 3, 4, 5, 6] rfl ?_
        rw [show bst (fun i => fitb (wh T (upn (th T) (8 * p + q) i)) (vo (wh T (upn (th T) (8 * p + q) i)) 24) G G.1) (i + 1) = bst (fun i => fitb (wh T (upn (th T) (8 * p + q) i)) (vo (wh T (upn (th T) (8 * p + q) i)) 24) G G.1) i from bst_z (Bool.eq_false_iff.mpr h46)] at ih
        exact ih _ ⟨⟨_, hJ.1⟩, hJ.2.2⟩ hQx
      · intro j hj ihj x hJ hQx
        refine run_ok 2 (c' := (67, [(0, .ref 48), (1, .int (nI p)), (2, .int (nI q)), (3, .int (nI (8 * p + q))), (4, .int (nI (th T (8 * p + q)))), (5, .int (nI (bst (fun i => fitb (wh T (upn (th T) (8 * p + q) i)) (vo (wh T (upn (th T) (8 * p + q) i)) 24) G G.1) i))), (6, .int (nI i)), (7, .int (nI j))], [.int (nI 24), .int (nI j)], x)) rfl ?_
        refine x_icmpN_ge 95 rfl rfl (by omega) (by omega) (fun hn => absurd hn (show ¬ 24 ≤ j by omega)) (fun h67 => ?_)
        refine run_ok 5 (c' := (79, [(0, .ref 48), (1, .int (nI p)), (2, .int (nI q)), (3, .int (nI (8 * p + q))), (4, .int (nI (th T (8 * p + q)))), (5, .int (nI (bst (fun i => fitb (wh T (upn (th T) (8 * p + q) i)) (vo (wh T (upn (th T) (8 * p + q) i)) 24) G G.1) i))), (6, .int (nI i)), (7, .int (nI j))], [.int ((nI 24) * (nI i)), .ref 77], x)) rfl ?_
        refine x_top (v' := nI (24 * i)) (pk_mul _ _) ?_
        refine run_ok 2 (c' := (82, [(0, .ref 48), (1, .int (nI p)), (2, .int (nI q)), (3, .int (nI (8 * p + q))), (4, .int (nI (th T (8 * p + q)))), (5, .int (nI (bst (fun i => fitb (wh T (upn (th T) (8 * p + q) i)) (vo (wh T (upn (th T) (8 * p + q) i)) 24) G G.1) i))), (6, .int (nI i)), (7, .int (nI j))], [.int ((nI (24 * i)) + (nI j)), .ref 77], x)) rfl ?_
        refine x_top (v' := nI ((24 * i) + j)) (nI_add _ _) ?_
        refine run_ok 2 (c' := (85, [(0, .ref 48), (1, .int (nI p)), (2, .int (nI q)), (3, .int (nI (8 * p + q))), (4, .int (nI (th T (8 * p + q)))), (5, .int (nI (bst (fun i => fitb (wh T (upn (th T) (8 * p + q) i)) (vo (wh T (upn (th T) (8 * p + q) i)) 24) G G.1) i))), (6, .int (nI i)), (7, .int (nI j))], [.int (nI j), .ref 48, .int (nI ((24 * i) + j)), .ref 77], x)) rfl ?_
        refine x_callV [.int (nI j)] rfl cv_R_namesAll.1 lk_7_297 cv_R_namesAll.2.1 cv_R_namesAll.2.2.1 rfl cv_R_namesAll.2.2.2.1 rfl rfl (Nat.le_of_ble_eq_true rfl) (by decide) cv_R_namesAll.2.2.2.2 (m_namesAll x (wh T (upn (th T) (8 * p + q) i)) hJ.1 hJ.2.1 (tok_wh hto (by omega)) j hj) ?_
        rintro r z ⟨hr, hu⟩
        rw [hr, hu]
        clear hr hu r z
        refine x_isN rfl rfl (by decide) (by omega) ?_
        refine run_ok 1 (c' := (92, [(0, .ref 48), (1, .int (nI p)), (2, .int (nI q)), (3, .int (nI (8 * p + q))), (4, .int (nI (th T (8 * p + q)))), (5, .int (nI (bst (fun i => fitb (wh T (upn (th T) (8 * p + q) i)) (vo (wh T (upn (th T) (8 * p + q) i)) 24) G G.1) i))), (6, .int (nI i)), (7, .int (nI j + nI 1))], [], (pt x 77 ((24 * i) + j) (nI (nwf (wh T (upn (th T) (8 * p + q) i)) j))))) rfl ?_
        rw [nI_add j 1]
        refine run_ok 1 (c' := (63, [(0, .ref 48), (1, .int (nI p)), (2, .int (nI q)), (3, .int (nI (8 * p + q))), (4, .int (nI (th T (8 * p + q)))), (5, .int (nI (bst (fun i => fitb (wh T (upn (th T) (8 * p + q) i)) (vo (wh T (upn (th T) (8 * p + q) i)) 24) G G.1) i))), (6, .int (nI i)), (7, .int (nI (j + 1)))], [], (pt x 77 ((24 * i) + j) (nI (nwf (wh T (upn (th T) (8 * p + q) i)) j))))) rfl ?_
        refine x_less [0, 1, 2, 3, 4, 5, 6, 7] rfl ?_
        exact ihj _ ⟨MT.cel hJ.1 (by decide), RC.cel hJ.2.1 (by decide), NB.next hj hJ.2.2⟩ (hQx.cel (by decide) (by decide))
    · refine run_ok 5 (c' := (58, [(0, .ref 48), (1, .int (nI p)), (2, .int (nI q)), (3, .int (nI (8 * p + q))), (4, .int (nI (th T (8 * p + q)))), (5, .int (nI (bst (fun i => fitb (wh T (upn (th T) (8 * p + q) i)) (vo (wh T (upn (th T) (8 * p + q) i)) 24) G G.1) i))), (6, .int (nI i))], [.int ((nI (bst (fun i => fitb (wh T (upn (th T) (8 * p + q) i)) (vo (wh T (upn (th T) (8 * p + q) i)) 24) G G.1) i)) ||| ((nI 1) <<< ((nI i) &&& 31)))], u2)) rfl ?_
      refine x_top (v' := nI (bst (fun i => fitb (wh T (upn (th T) (8 * p + q) i)) (vo (wh T (upn (th T) (8 * p + q) i)) 24) G G.1) i + 1 * 2 ^ i)) (or_bit (bst_lt _ _) (by omega)) ?_
      refine run_ok 3 (c' := (63, [(0, .ref 48), (1, .int (nI p)), (2, .int (nI q)), (3, .int (nI (8 * p + q))), (4, .int (nI (th T (8 * p + q)))), (5, .int (nI (bst (fun i => fitb (wh T (upn (th T) (8 * p + q) i)) (vo (wh T (upn (th T) (8 * p + q) i)) 24) G G.1) i + 1 * 2 ^ i))), (6, .int (nI i)), (7, .int (nI 0))], [], u2)) rfl ?_
      refine loop_up (P := fun j => ∀ x : ST, (MT (wh T (upn (th T) (8 * p + q) i)) x ∧ RC (wh T (upn (th T) (8 * p + q) i)) 24 x ∧ NB (nwh T p q) (24 * i + j) x) → QM S x → BX me_R_hatedBy 7 none (fun r u => r = some (.int (nI (bst (fun i => fitb (wh T (upn (th T) (8 * p + q) i)) (vo (wh T (upn (th T) (8 * p + q) i)) 24) G G.1) 10))) ∧ NB (nwh T p q) 240 u ∧ QM S u) (63, [(0, .ref 48), (1, .int (nI p)), (2, .int (nI q)), (3, .int (nI (8 * p + q))), (4, .int (nI (th T (8 * p + q)))), (5, .int (nI (bst (fun i => fitb (wh T (upn (th T) (8 * p + q) i)) (vo (wh T (upn (th T) (8 * p + q) i)) 24) G G.1) i + 1 * 2 ^ i))), (6, .int (nI i)), (7, .int (nI j))], [], x)) (24) ?_ ?_ 0 (by omega) _ ⟨hTu2, hCu2, ((hI.2.cel (by decide)).keep hfu2 (by decide))⟩ hQu2
      · intro x hJ hQx
        refine run_ok 2 (c' := (67, [(0, .ref 48), (1, .int (nI p)), (2, .int (nI q)), (3, .int (nI (8 * p + q))), (4, .int (nI (th T (8 * p + q)))), (5, .int (nI (bst (fun i => fitb (wh T (upn (th T) (8 * p + q) i)) (vo (wh T (upn (th T) (8 * p + q) i)) 24) G G.1) i + 1 * 2 ^ i))), (6, .int (nI i)), (7, .int (nI 24))], [.int (nI 24), .int (nI 24)], x)) rfl ?_
        refine x_icmpN_ge 95 rfl rfl (by omega) (by omega) (fun h67 => ?_) (fun hn => absurd (Nat.le_refl _) hn)
        refine run_ok 1 (c' := (98, [(0, .ref 48), (1, .int (nI p)), (2, .int (nI q)), (3, .int (nI (8 * p + q))), (4, .int (nI (th T (8 * p + q)))), (5, .int (nI (bst (fun i => fitb (wh T (upn (th T) (8 * p + q) i)) (vo (wh T (upn (th T) (8 * p + q) i)) 24) G G.1) i + 1 * 2 ^ i))), (6, .int (nI i + nI 1)), (7, .int (nI 24))], [], x)) rfl ?_
        rw [nI_add i 1]
        refine run_ok 1 (c' := (25, [(0, .ref 48), (1, .int (nI p)), (2, .int (nI q)), (3, .int (nI (8 * p + q))), (4, .int (nI (th T (8 * p + q)))), (5, .int (nI (bst (fun i => fitb (wh T (upn (th T) (8 * p + q) i)) (vo (wh T (upn (th T) (8 * p + q) i)) 24) G G.1) i + 1 * 2 ^ i))), (6, .int (nI (i + 1))), (7, .int (nI 24))], [], x)) rfl ?_
        refine x_less [0, 1, 2, 3, 4, 5, 6] rfl ?_
        rw [show bst (fun i => fitb (wh T (upn (th T) (8 * p + q) i)) (vo (wh T (upn (th T) (8 * p + q) i)) 24) G G.1) (i + 1) = bst (fun i => fitb (wh T (upn (th T) (8 * p + q) i)) (vo (wh T (upn (th T) (8 * p + q) i)) 24) G G.1) i + 1 * 2 ^ i from bst_s h46] at ih
        exact ih _ ⟨⟨_, hJ.1⟩, hJ.2.2⟩ hQx
      · intro j hj ihj x hJ hQx
        refine run_ok 2 (c' := (67, [(0, .ref 48), (1, .int (nI p)), (2, .int (nI q)), (3, .int (nI (8 * p + q))), (4, .int (nI (th T (8 * p + q)))), (5, .int (nI (bst (fun i => fitb (wh T (upn (th T) (8 * p + q) i)) (vo (wh T (upn (th T) (8 * p + q) i)) 24) G G.1) i + 1 * 2 ^ i))), (6, .int (nI i)), (7, .int (nI j))], [.int (nI 24), .int (nI j)], x)) rfl ?_
        refine x_icmpN_ge 95 rfl rfl (by omega) (by omega) (fun hn => absurd hn (show ¬ 24 ≤ j by omega)) (fun h67 => ?_)
        refine run_ok 5 (c' := (79, [(0, .ref 48), (1, .int (nI p)), (2, .int (nI q)), (3, .int (nI (8 * p + q))), (4, .int (nI (th T (8 * p + q)))), (5, .int (nI (bst (fun i => fitb (wh T (upn (th T) (8 * p + q) i)) (vo (wh T (upn (th T) (8 * p + q) i)) 24) G G.1) i + 1 * 2 ^ i))), (6, .int (nI i)), (7, .int (nI j))], [.int ((nI 24) * (nI i)), .ref 77], x)) rfl ?_
        refine x_top (v' := nI (24 * i)) (pk_mul _ _) ?_
        refine run_ok 2 (c' := (82, [(0, .ref 48), (1, .int (nI p)), (2, .int (nI q)), (3, .int (nI (8 * p + q))), (4, .int (nI (th T (8 * p + q)))), (5, .int (nI (bst (fun i => fitb (wh T (upn (th T) (8 * p + q) i)) (vo (wh T (upn (th T) (8 * p + q) i)) 24) G G.1) i + 1 * 2 ^ i))), (6, .int (nI i)), (7, .int (nI j))], [.int ((nI (24 * i)) + (nI j)), .ref 77], x)) rfl ?_
        refine x_top (v' := nI ((24 * i) + j)) (nI_add _ _) ?_
        refine run_ok 2 (c' := (85, [(0, .ref 48), (1, .int (nI p)), (2, .int (nI q)), (3, .int (nI (8 * p + q))), (4, .int (nI (th T (8 * p + q)))), (5, .int (nI (bst (fun i => fitb (wh T (upn (th T) (8 * p + q) i)) (vo (wh T (upn (th T) (8 * p + q) i)) 24) G G.1) i + 1 * 2 ^ i))), (6, .int (nI i)), (7, .int (nI j))], [.int (nI j), .ref 48, .int (nI ((24 * i) + j)), .ref 77], x)) rfl ?_
        refine x_callV [.int (nI j)] rfl cv_R_namesAll.1 lk_7_297 cv_R_namesAll.2.1 cv_R_namesAll.2.2.1 rfl cv_R_namesAll.2.2.2.1 rfl rfl (Nat.le_of_ble_eq_true rfl) (by decide) cv_R_namesAll.2.2.2.2 (m_namesAll x (wh T (upn (th T) (8 * p + q) i)) hJ.1 hJ.2.1 (tok_wh hto (by omega)) j hj) ?_
        rintro r z ⟨hr, hu⟩
        rw [hr, hu]
        clear hr hu r z
        refine x_isN rfl rfl (by decide) (by omega) ?_
        refine run_ok 1 (c' := (92, [(0, .ref 48), (1, .int (nI p)), (2, .int (nI q)), (3, .int (nI (8 * p + q))), (4, .int (nI (th T (8 * p + q)))), (5, .int (nI (bst (fun i => fitb (wh T (upn (th T) (8 * p + q) i)) (vo (wh T (upn (th T) (8 * p + q) i)) 24) G G.1) i + 1 * 2 ^ i))), (6, .int (nI i)), (7, .int (nI j + nI 1))], [], (pt x 77 ((24 * i) + j) (nI (nwf (wh T (upn (th T) (8 * p + q) i)) j))))) rfl ?_
        rw [nI_add j 1]
        refine run_ok 1 (c' := (63, [(0, .ref 48), (1, .int (nI p)), (2, .int (nI q)), (3, .int (nI (8 * p + q))), (4, .int (nI (th T (8 * p + q)))), (5, .int (nI (bst (fun i => fitb (wh T (upn (th T) (8 * p + q) i)) (vo (wh T (upn (th T) (8 * p + q) i)) 24) G G.1) i + 1 * 2 ^ i))), (6, .int (nI i)), (7, .int (nI (j + 1)))], [], (pt x 77 ((24 * i) + j) (nI (nwf (wh T (upn (th T) (8 * p + q) i)) j))))) rfl ?_
        refine x_less [0, 1, 2, 3, 4, 5, 6, 7] rfl ?_
        exact ihj _ ⟨MT.cel hJ.1 (by decide), RC.cel hJ.2.1 (by decide), NB.next hj hJ.2.2⟩ (hQx.cel (by decide) (by decide))

set_option maxHeartbeats 2000000 in
theorem m_hated_ok (S : ST) (T : TD) (n : Nat) (b : Nat → Nat) (n' : Nat) (b' : Nat → Nat) (hL : ML T n b n' b' S) (hto : tok T) (G : SD) (hg : SM G S) (hgo : sok G) (p q : Nat) (hp : p < 8) (hq8 : q < 8) (hpq : p ≠ q) : EX me_R_hated 8 [.ref 48, .int (nI p), .int (nI q)] S (fun r u => r = some (.int (nI (bst (fun i => fitb (wh T (upn (th T) (8 * p + q) i)) (vo (wh T (upn (th T) (8 * p + q) i)) 24) G G.1) 10))) ∧ QM S u) := by
  refine EX.of mok_R_hated (Nat.le_of_ble_eq_true rfl) ?_
  refine run_ok 2 (c' := (2, [(0, .ref 48), (1, .int (nI p)), (2, .int (nI q))], [.int (nI q), .int (nI p)], S)) rfl ?_
  refine x_callS [.int (nI p), .int (nI q)] rfl cs_R_areTwo.1 lk_7_156 cs_R_areTwo.2.1 rfl rfl (Nat.le_of_ble_eq_true rfl) (by decide) cs_R_areTwo.2.2 (m_areTwo S (nI p) (nI q)) ?_
  rintro r u ⟨hr, hu⟩
  rw [hr, hu]
  clear hr hu r u
  refine x_ifB_eq 17 rfl rfl (fun hn => absurd hn (fun z => z (two_t hp hq8 hpq))) (fun h5 => ?_)
  refine run_ok 3 (c' := (11, [(0, .ref 48), (1, .int (nI p)), (2, .int (nI q))], [.int (nI q), .int (nI p), .ref 48], S)) rfl ?_
  refine x_callV [.int (nI p), .int (nI q)] rfl cv_R_hatedBy.1 lk_7_300 cv_R_hatedBy.2.1 cv_R_hatedBy.2.2.1 rfl cv_R_hatedBy.2.2.2.1 rfl rfl (Nat.le_of_ble_eq_true rfl) (by decide) cv_R_hatedBy.2.2.2.2 (m_hatedBy S T n b n' b' (hL.stay QM.rf) hto G (hg.stay QM.rf) hgo p q hp hq8) ?_
  rintro r u1 ⟨hr, hN, hqu1⟩
  rw [hr]
  clear hr r
  have hQu1 : QM S u1 := QM.rf.tr hqu1
  refine run_ok 1 (c' := (19, [(0, .ref 48), (1, .int (nI p)), (2, .int (nI q))], [.int (nI (bst (fun i => fitb (wh T (upn (th T) (8 * p + q) i)) (vo (wh T (upn (th T) (8 * p + q) i)) 24) G G.1) 10))], u1)) rfl ?_
  exact x_ret (r := some (.int (nI (bst (fun i => fitb (wh T (upn (th T) (8 * p + q) i)) (vo (wh T (upn (th T) (8 * p + q) i)) 24) G G.1) 10)))) rfl rfl trivial ⟨rfl, hQu1⟩ rfl

set_option maxHeartbeats 2000000 in
theorem m_hated_bad (S : ST) (T : TD) (n : Nat) (b : Nat → Nat) (n' : Nat) (b' : Nat → Nat) (hL : ML T n b n' b' S) (hto : tok T) (x y : Int32) (hbad : ¬ ((0 ≤ x ∧ x < nI 8) ∧ (0 ≤ y ∧ y < nI 8) ∧ ¬ x = y)) : EX me_R_hated 8 [.ref 48, .int x, .int y] S (fun r u => r = some (.int ((-2))) ∧ QM S u) := by
  refine EX.of mok_R_hated (Nat.le_of_ble_eq_true rfl) ?_
  refine run_ok 2 (c' := (2, [(0, .ref 48), (1, .int x), (2, .int y)], [.int y, .int x], S)) rfl ?_
  refine x_callS [.int x, .int y] rfl cs_R_areTwo.1 lk_7_156 cs_R_areTwo.2.1 rfl rfl (Nat.le_of_ble_eq_true rfl) (by decide) cs_R_areTwo.2.2 (m_areTwo S (x) (y)) ?_
  rintro r u ⟨hr, hu⟩
  rw [hr, hu]
  clear hr hu r u
  refine x_ifB_eq 17 rfl rfl (fun h5 => ?_) (fun h5 => ?_)
  · refine run_ok 1 (c' := (19, [(0, .ref 48), (1, .int x), (2, .int y)], [.int (-2)], S)) rfl ?_
    exact x_ret (r := some (.int (-2))) rfl rfl trivial ⟨rfl, QM.rf⟩ rfl
  · exact absurd h5 hbad


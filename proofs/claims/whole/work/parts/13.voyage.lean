/-! the voyage of the class: its small methods -/
set_option maxHeartbeats 1000000 in
theorem c_worst (S : ST) (h : Nat → Nat) (b : Nat) (hb : b < 8) (hh : rh S 24 64 h) (h9 : ∀ j, j < 64 → h j ≤ 9) : EX me_V_worstEnemy 0 [.ref 23, .int (nI b)] S (fun r u => r = some (.int (nmv (wst h b 8).1)) ∧ u = S) := by
  refine EX.of mok_V_worstEnemy (Nat.le_of_ble_eq_true rfl) ?_
  refine run_ok 6 (c' := (7, [(0, .ref 23), (1, .int (nI b)), (2, .int (nmv (wst h b 0).1)), (3, .int (nI (wst h b 0).2)), (4, .int (nI 0))], [], S)) rfl ?_
  refine loop_up (P := fun i => BX me_V_worstEnemy 0 none (fun r u => r = some (.int (nmv (wst h b 8).1)) ∧ u = S) (7, [(0, .ref 23), (1, .int (nI b)), (2, .int (nmv (wst h b i).1)), (3, .int (nI (wst h b i).2)), (4, .int (nI i))], [], S)) 8 ?_ ?_ 0 (by omega)
  · skip
    refine run_ok 2 (c' := (11, [(0, .ref 23), (1, .int (nI b)), (2, .int (nmv (wst h b 8).1)), (3, .int (nI ((wst h b 8).2))), (4, .int (nI 8))], [.int (nI 8), .int (nI 8)], S)) rfl ?_
    refine x_icmpN_ge 46 rfl rfl (by omega) (by omega) (fun h11 => ?_) (fun hn => absurd (Nat.le_refl 8) hn)
    refine run_ok 1 (c' := (47, [(0, .ref 23), (1, .int (nI b)), (2, .int (nmv (wst h b 8).1)), (3, .int (nI ((wst h b 8).2))), (4, .int (nI 8))], [.int (nmv (wst h b 8).1)], S)) rfl ?_
    exact x_ret (r := some (.int (nmv (wst h b 8).1))) rfl rfl trivial ⟨rfl, rfl⟩ rfl
  · intro i hi ih
    have hw := wst_le h b h9 hb i (by omega)
    have hq := h9 (8 * i + b) (by omega)
    refine run_ok 2 (c' := (11, [(0, .ref 23), (1, .int (nI b)), (2, .int (nmv (wst h b i).1)), (3, .int (nI ((wst h b i).2))), (4, .int (nI i))], [.int (nI 8), .int (nI i)], S)) rfl ?_
    refine x_icmpN_ge 46 rfl rfl (by omega) (by omega) (fun hn => absurd hn (show ¬ 8 ≤ i by omega)) (fun h11 => ?_)
    refine run_ok 5 (c' := (23, [(0, .ref 23), (1, .int (nI b)), (2, .int (nmv (wst h b i).1)), (3, .int (nI ((wst h b i).2))), (4, .int (nI i))], [.int ((nI i) * (nI 8)), .ref 24], S)) rfl ?_
    refine x_top (v' := nI (i * 8)) (pk_mul _ _) ?_
    refine run_ok 2 (c' := (25, [(0, .ref 23), (1, .int (nI b)), (2, .int (nmv (wst h b i).1)), (3, .int (nI ((wst h b i).2))), (4, .int (nI i))], [.int ((nI (i * 8)) + (nI b)), .ref 24], S)) rfl ?_
    refine x_top (v' := nI ((i * 8) + b)) (nI_add _ _) ?_
    refine x_iaN (nI (h (8 * i + b))) rfl rfl (by decide) (by omega) (by rw [show i * 8 + b = 8 * i + b by omega]; exact hh _ (by omega)) ?_
    refine run_ok 3 (c' := (31, [(0, .ref 23), (1, .int (nI b)), (2, .int (nmv (wst h b i).1)), (3, .int (nI ((wst h b i).2))), (4, .int (nI i)), (5, .int (nI (h (8 * i + b))))], [.int (nI ((wst h b i).2)), .int (nI (h (8 * i + b)))], S)) rfl ?_
    refine x_icmpN_le 40 rfl rfl (by omega) (by omega) (fun h31 => ?_) (fun h31 => ?_)
    · refine run_ok 1 (c' := (43, [(0, .ref 23), (1, .int (nI b)), (2, .int (nmv (wst h b i).1)), (3, .int (nI ((wst h b i).2))), (4, .int (nI i + nI 1)), (5, .int (nI (h (8 * i + b))))], [], S)) rfl ?_
      rw [nI_add i 1]
      refine run_ok 1 (c' := (7, [(0, .ref 23), (1, .int (nI b)), (2, .int (nmv (wst h b i).1)), (3, .int (nI ((wst h b i).2))), (4, .int (nI (i + 1))), (5, .int (nI (h (8 * i + b))))], [], S)) rfl ?_
      refine x_less [0, 1, 2, 3, 4] rfl ?_
      rw [show wst h b (i + 1) = wst h b i from if_neg (show ¬ (wst h b i).2 < h (8 * i + b) by omega)] at ih
      exact ih
    · refine run_ok 5 (c' := (43, [(0, .ref 23), (1, .int (nI b)), (2, .int (nI i)), (3, .int (nI (h (8 * i + b)))), (4, .int (nI i + nI 1)), (5, .int (nI (h (8 * i + b))))], [], S)) rfl ?_
      rw [nI_add i 1]
      refine run_ok 1 (c' := (7, [(0, .ref 23), (1, .int (nI b)), (2, .int (nI i)), (3, .int (nI (h (8 * i + b)))), (4, .int (nI (i + 1))), (5, .int (nI (h (8 * i + b))))], [], S)) rfl ?_
      refine x_less [0, 1, 2, 3, 4] rfl ?_
      rw [show wst h b (i + 1) = (i, h (8 * i + b)) from if_pos (show (wst h b i).2 < h (8 * i + b) by omega)] at ih
      rw [nmv_lt (show i < 8 by omega)] at ih
      exact ih

set_option maxHeartbeats 1000000 in
theorem c_storm5 (S : ST) (T : TD) (V : VS) (hT : TR 5 T S) (htl : S.2.2 = 5) (hto : tok T) (his : rh S 25 8 (vis V)) (hho : rh S 28 (tnb T) (vho V)) (hho9 : ∀ k, k < tnb T → vho V k ≤ 9) (hv3 : ∀ k, k < 8 → vis V k ≤ 3) : EX me_V_storm 1 [.ref 23] S (fun r u => r = none ∧ rh u 28 (tnb T) (vho (stm T V)) ∧ fr [28] S u ∧ u.2 = S.2) := by
  refine EX.of mok_V_storm (Nat.le_of_ble_eq_true rfl) ?_
  obtain ⟨n8, n9, hbt, het, hht, hlo⟩ := id hto
  have H : ∀ i, i ≤ tnb T → ∀ u : ST, rh u 28 (tnb T) (stmk T V i) → fr [28] S u → u.2 = S.2 → BX me_V_storm 1 none (fun r u => r = none ∧ rh u 28 (tnb T) (vho (stm T V)) ∧ fr [28] S u ∧ u.2 = S.2) (2, [(0, .ref 23), (1, .int (nI i))], [], u) := by
    refine loop_up (P := fun i => ∀ u : ST, rh u 28 (tnb T) (stmk T V i) → fr [28] S u → u.2 = S.2 → BX me_V_storm 1 none (fun r u => r = none ∧ rh u 28 (tnb T) (vho (stm T V)) ∧ fr [28] S u ∧ u.2 = S.2) (2, [(0, .ref 23), (1, .int (nI i))], [], u)) (tnb T) ?_ ?_
    · intro u h28 hf h2
      have hTu : TR 5 T u := hT.keep hf (by decide)
      obtain ⟨t1, t2, t3, t4, t5, t6, t7, t8, t9, t10, t11⟩ := hTu
      have htu : u.2.2 = 5 := by rw [h2]; exact htl
      have hiu : rh u 25 8 (vis V) := his.keep hf (by decide)
      refine run_ok 2 (c' := (4, [(0, .ref 23), (1, .int (nI (tnb T)))], [.ref 23, .int (nI (tnb T))], u)) rfl ?_
      refine x_gett (t := 5) rfl rfl htu ?_
      refine run_ok 1 (c' := (10, [(0, .ref 23), (1, .int (nI (tnb T)))], [.int (u.1 5 6), .int (nI (tnb T))], u)) rfl ?_
      refine x_top (v' := nI (tnb T)) t9 ?_
      refine x_icmpN_ge 66 rfl rfl (by omega) (by omega) (fun h10 => ?_) (fun hn => absurd (Nat.le_refl _) hn)
      exact x_ret (r := none) rfl rfl trivial ⟨rfl, h28, hf, h2⟩ rfl
    · intro i hi ih u h28 hf h2
      have q1 := (hv3 i (by omega))
      have q2 := (hbt i hi).1
      have q3 := hho9 i hi
      have hTu : TR 5 T u := hT.keep hf (by decide)
      obtain ⟨t1, t2, t3, t4, t5, t6, t7, t8, t9, t10, t11⟩ := hTu
      have htu : u.2.2 = 5 := by rw [h2]; exact htl
      have hiu : rh u 25 8 (vis V) := his.keep hf (by decide)
      refine run_ok 2 (c' := (4, [(0, .ref 23), (1, .int (nI i))], [.ref 23, .int (nI i)], u)) rfl ?_
      refine x_gett (t := 5) rfl rfl htu ?_
      refine run_ok 1 (c' := (10, [(0, .ref 23), (1, .int (nI i))], [.int (u.1 5 6), .int (nI i)], u)) rfl ?_
      refine x_top (v' := nI (tnb T)) t9 ?_
      refine x_icmpN_ge 66 rfl rfl (by omega) (by omega) (fun hn => absurd hn (show ¬ tnb T ≤ i by omega)) (fun h10 => ?_)
      refine run_ok 3 (c' := (18, [(0, .ref 23), (1, .int (nI i))], [.int (nI i), .ref 25], u)) rfl ?_
      refine x_iaN (nI (vis V i)) rfl rfl (by decide) (by omega) (hiu i (by omega)) ?_
      refine run_ok 1 (c' := (20, [(0, .ref 23), (1, .int (nI i))], [.int (nI 1), .int (nI (vis V i))], u)) rfl ?_
      refine x_icmpN_ne 60 rfl rfl (by omega) (by omega) (fun h20 => ?_) (fun h20 => ?_)
      · refine run_ok 1 (c' := (63, [(0, .ref 23), (1, .int (nI i + nI 1))], [], u)) rfl ?_
        rw [nI_add i 1]
        refine run_ok 1 (c' := (2, [(0, .ref 23), (1, .int (nI (i + 1)))], [], u)) rfl ?_
        exact ih _ (h28.cg (fun j _ => stmk_b h20 j)) hf h2
      · refine run_ok 1 (c' := (24, [(0, .ref 23), (1, .int (nI i))], [.ref 23], u)) rfl ?_
        refine x_gett (t := 5) rfl rfl htu ?_
        refine run_ok 2 (c' := (31, [(0, .ref 23), (1, .int (nI i))], [.int (nI i), .ref 7], u)) rfl ?_
        refine x_iaN (nI (tso T i)) rfl rfl (by decide) (by omega) (t2 i (by omega)) ?_
        refine run_ok 1 (c' := (33, [(0, .ref 23), (1, .int (nI i))], [.int (nI 2), .int (nI (tso T i))], u)) rfl ?_
        refine x_icmpN_ne 40 rfl rfl (by omega) (by omega) (fun h33 => ?_) (fun h33 => ?_)
        · refine run_ok 9 (c' := (53, [(0, .ref 23), (1, .int (nI i)), (2, .int (nI 1))], [.int (nI i), .ref 28, .int (nI 0), .int (nI i), .ref 28], u)) rfl ?_
          refine x_iaN (nI (vho V i)) rfl rfl (by decide) (by omega) (by rw [← stmk_c T V i]; exact h28 i hi) ?_
          refine run_ok 2 (c' := (56, [(0, .ref 23), (1, .int (nI i)), (2, .int (nI 1))], [.int ((nI (vho V i)) - (nI 1)), .int (nI 0), .int (nI i), .ref 28], u)) rfl ?_
          refine x_mmax rfl lk_5_109 wm_max.1 wm_max.2.1 wm_max.2.2 (Nat.le_of_ble_eq_true rfl) (by decide) ?_
          refine x_top (v' := nI (vho V i - 1)) (max0 (by omega) (by decide)) ?_
          refine x_isN rfl rfl (by decide) (by omega) ?_
          refine run_ok 1 (c' := (63, [(0, .ref 23), (1, .int (nI i + nI 1)), (2, .int (nI 1))], [], (pt u 28 i (nI (vho V i - 1))))) rfl ?_
          rw [nI_add i 1]
          refine run_ok 1 (c' := (2, [(0, .ref 23), (1, .int (nI (i + 1))), (2, .int (nI 1))], [], (pt u 28 i (nI (vho V i - 1))))) rfl ?_
          refine x_less [0, 1] rfl ?_
          exact ih _ (h28.put.cg (fun j _ => stmk_a h20 (if_neg h33) j)) (hf.pt (by decide)) h2
        · refine run_ok 10 (c' := (53, [(0, .ref 23), (1, .int (nI i)), (2, .int (nI 2))], [.int (nI i), .ref 28, .int (nI 0), .int (nI i), .ref 28], u)) rfl ?_
          refine x_iaN (nI (vho V i)) rfl rfl (by decide) (by omega) (by rw [← stmk_c T V i]; exact h28 i hi) ?_
          refine run_ok 2 (c' := (56, [(0, .ref 23), (1, .int (nI i)), (2, .int (nI 2))], [.int ((nI (vho V i)) - (nI 2)), .int (nI 0), .int (nI i), .ref 28], u)) rfl ?_
          refine x_mmax rfl lk_5_109 wm_max.1 wm_max.2.1 wm_max.2.2 (Nat.le_of_ble_eq_true rfl) (by decide) ?_
          refine x_top (v' := nI (vho V i - 2)) (max0 (by omega) (by decide)) ?_
          refine x_isN rfl rfl (by decide) (by omega) ?_
          refine run_ok 1 (c' := (63, [(0, .ref 23), (1, .int (nI i + nI 1)), (2, .int (nI 2))], [], (pt u 28 i (nI (vho V i - 2))))) rfl ?_
          rw [nI_add i 1]
          refine run_ok 1 (c' := (2, [(0, .ref 23), (1, .int (nI (i + 1))), (2, .int (nI 2))], [], (pt u 28 i (nI (vho V i - 2))))) rfl ?_
          refine x_less [0, 1] rfl ?_
          exact ih _ (h28.put.cg (fun j _ => stmk_a h20 (if_pos h33) j)) (hf.pt (by decide)) h2
  refine run_ok 2 (c' := (2, [(0, .ref 23), (1, .int (nI 0))], [], S)) rfl ?_
  exact H 0 (Nat.zero_le _) S (hho.cg (fun j _ => stmk_0 T V j)) fr.rf rfl

set_option maxHeartbeats 1000000 in
theorem c_storm14 (S : ST) (T : TD) (V : VS) (hT : TR 14 T S) (htl : S.2.2 = 14) (hto : tok T) (his : rh S 25 8 (vis V)) (hho : rh S 28 (tnb T) (vho V)) (hho9 : ∀ k, k < tnb T → vho V k ≤ 9) (hv3 : ∀ k, k < 8 → vis V k ≤ 3) : EX me_V_storm 1 [.ref 23] S (fun r u => r = none ∧ rh u 28 (tnb T) (vho (stm T V)) ∧ fr [28] S u ∧ u.2 = S.2) := by
  refine EX.of mok_V_storm (Nat.le_of_ble_eq_true rfl) ?_
  obtain ⟨n8, n9, hbt, het, hht, hlo⟩ := id hto
  have H : ∀ i, i ≤ tnb T → ∀ u : ST, rh u 28 (tnb T) (stmk T V i) → fr [28] S u → u.2 = S.2 → BX me_V_storm 1 none (fun r u => r = none ∧ rh u 28 (tnb T) (vho (stm T V)) ∧ fr [28] S u ∧ u.2 = S.2) (2, [(0, .ref 23), (1, .int (nI i))], [], u) := by
    refine loop_up (P := fun i => ∀ u : ST, rh u 28 (tnb T) (stmk T V i) → fr [28] S u → u.2 = S.2 → BX me_V_storm 1 none (fun r u => r = none ∧ rh u 28 (tnb T) (vho (stm T V)) ∧ fr [28] S u ∧ u.2 = S.2) (2, [(0, .ref 23), (1, .int (nI i))], [], u)) (tnb T) ?_ ?_
    · intro u h28 hf h2
      have hTu : TR 14 T u := hT.keep hf (by decide)
      obtain ⟨t1, t2, t3, t4, t5, t6, t7, t8, t9, t10, t11⟩ := hTu
      have htu : u.2.2 = 14 := by rw [h2]; exact htl
      have hiu : rh u 25 8 (vis V) := his.keep hf (by decide)
      refine run_ok 2 (c' := (4, [(0, .ref 23), (1, .int (nI (tnb T)))], [.ref 23, .int (nI (tnb T))], u)) rfl ?_
      refine x_gett (t := 14) rfl rfl htu ?_
      refine run_ok 1 (c' := (10, [(0, .ref 23), (1, .int (nI (tnb T)))], [.int (u.1 14 6), .int (nI (tnb T))], u)) rfl ?_
      refine x_top (v' := nI (tnb T)) t9 ?_
      refine x_icmpN_ge 66 rfl rfl (by omega) (by omega) (fun h10 => ?_) (fun hn => absurd (Nat.le_refl _) hn)
      exact x_ret (r := none) rfl rfl trivial ⟨rfl, h28, hf, h2⟩ rfl
    · intro i hi ih u h28 hf h2
      have q1 := (hv3 i (by omega))
      have q2 := (hbt i hi).1
      have q3 := hho9 i hi
      have hTu : TR 14 T u := hT.keep hf (by decide)
      obtain ⟨t1, t2, t3, t4, t5, t6, t7, t8, t9, t10, t11⟩ := hTu
      have htu : u.2.2 = 14 := by rw [h2]; exact htl
      have hiu : rh u 25 8 (vis V) := his.keep hf (by decide)
      refine run_ok 2 (c' := (4, [(0, .ref 23), (1, .int (nI i))], [.ref 23, .int (nI i)], u)) rfl ?_
      refine x_gett (t := 14) rfl rfl htu ?_
      refine run_ok 1 (c' := (10, [(0, .ref 23), (1, .int (nI i))], [.int (u.1 14 6), .int (nI i)], u)) rfl ?_
      refine x_top (v' := nI (tnb T)) t9 ?_
      refine x_icmpN_ge 66 rfl rfl (by omega) (by omega) (fun hn => absurd hn (show ¬ tnb T ≤ i by omega)) (fun h10 => ?_)
      refine run_ok 3 (c' := (18, [(0, .ref 23), (1, .int (nI i))], [.int (nI i), .ref 25], u)) rfl ?_
      refine x_iaN (nI (vis V i)) rfl rfl (by decide) (by omega) (hiu i (by omega)) ?_
      refine run_ok 1 (c' := (20, [(0, .ref 23), (1, .int (nI i))], [.int (nI 1), .int (nI (vis V i))], u)) rfl ?_
      refine x_icmpN_ne 60 rfl rfl (by omega) (by omega) (fun h20 => ?_) (fun h20 => ?_)
      · refine run_ok 1 (c' := (63, [(0, .ref 23), (1, .int (nI i + nI 1))], [], u)) rfl ?_
        rw [nI_add i 1]
        refine run_ok 1 (c' := (2, [(0, .ref 23), (1, .int (nI (i + 1)))], [], u)) rfl ?_
        exact ih _ (h28.cg (fun j _ => stmk_b h20 j)) hf h2
      · refine run_ok 1 (c' := (24, [(0, .ref 23), (1, .int (nI i))], [.ref 23], u)) rfl ?_
        refine x_gett (t := 14) rfl rfl htu ?_
        refine run_ok 2 (c' := (31, [(0, .ref 23), (1, .int (nI i))], [.int (nI i), .ref 16], u)) rfl ?_
        refine x_iaN (nI (tso T i)) rfl rfl (by decide) (by omega) (t2 i (by omega)) ?_
        refine run_ok 1 (c' := (33, [(0, .ref 23), (1, .int (nI i))], [.int (nI 2), .int (nI (tso T i))], u)) rfl ?_
        refine x_icmpN_ne 40 rfl rfl (by omega) (by omega) (fun h33 => ?_) (fun h33 => ?_)
        · refine run_ok 9 (c' := (53, [(0, .ref 23), (1, .int (nI i)), (2, .int (nI 1))], [.int (nI i), .ref 28, .int (nI 0), .int (nI i), .ref 28], u)) rfl ?_
          refine x_iaN (nI (vho V i)) rfl rfl (by decide) (by omega) (by rw [← stmk_c T V i]; exact h28 i hi) ?_
          refine run_ok 2 (c' := (56, [(0, .ref 23), (1, .int (nI i)), (2, .int (nI 1))], [.int ((nI (vho V i)) - (nI 1)), .int (nI 0), .int (nI i), .ref 28], u)) rfl ?_
          refine x_mmax rfl lk_5_109 wm_max.1 wm_max.2.1 wm_max.2.2 (Nat.le_of_ble_eq_true rfl) (by decide) ?_
          refine x_top (v' := nI (vho V i - 1)) (max0 (by omega) (by decide)) ?_
          refine x_isN rfl rfl (by decide) (by omega) ?_
          refine run_ok 1 (c' := (63, [(0, .ref 23), (1, .int (nI i + nI 1)), (2, .int (nI 1))], [], (pt u 28 i (nI (vho V i - 1))))) rfl ?_
          rw [nI_add i 1]
          refine run_ok 1 (c' := (2, [(0, .ref 23), (1, .int (nI (i + 1))), (2, .int (nI 1))], [], (pt u 28 i (nI (vho V i - 1))))) rfl ?_
          refine x_less [0, 1] rfl ?_
          exact ih _ (h28.put.cg (fun j _ => stmk_a h20 (if_neg h33) j)) (hf.pt (by decide)) h2
        · refine run_ok 10 (c' := (53, [(0, .ref 23), (1, .int (nI i)), (2, .int (nI 2))], [.int (nI i), .ref 28, .int (nI 0), .int (nI i), .ref 28], u)) rfl ?_
          refine x_iaN (nI (vho V i)) rfl rfl (by decide) (by omega) (by rw [← stmk_c T V i]; exact h28 i hi) ?_
          refine run_ok 2 (c' := (56, [(0, .ref 23), (1, .int (nI i)), (2, .int (nI 2))], [.int ((nI (vho V i)) - (nI 2)), .int (nI 0), .int (nI i), .ref 28], u)) rfl ?_
          refine x_mmax rfl lk_5_109 wm_max.1 wm_max.2.1 wm_max.2.2 (Nat.le_of_ble_eq_true rfl) (by decide) ?_
          refine x_top (v' := nI (vho V i - 2)) (max0 (by omega) (by decide)) ?_
          refine x_isN rfl rfl (by decide) (by omega) ?_
          refine run_ok 1 (c' := (63, [(0, .ref 23), (1, .int (nI i + nI 1)), (2, .int (nI 2))], [], (pt u 28 i (nI (vho V i - 2))))) rfl ?_
          rw [nI_add i 1]
          refine run_ok 1 (c' := (2, [(0, .ref 23), (1, .int (nI (i + 1))), (2, .int (nI 2))], [], (pt u 28 i (nI (vho V i - 2))))) rfl ?_
          refine x_less [0, 1] rfl ?_
          exact ih _ (h28.put.cg (fun j _ => stmk_a h20 (if_pos h33) j)) (hf.pt (by decide)) h2
  refine run_ok 2 (c' := (2, [(0, .ref 23), (1, .int (nI 0))], [], S)) rfl ?_
  exact H 0 (Nat.zero_le _) S (hho.cg (fun j _ => stmk_0 T V j)) fr.rf rfl

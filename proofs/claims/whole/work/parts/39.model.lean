/-! the model: small methods, storms, shares, making up -/
/-- what the model goes by now; where its voyage is -/
def MT (T : TD) (u : ST) : Prop := rh u 52 64 (th T) ∧ rh u 53 (tnb T) (tso T) ∧ rh u 54 (tnb T) (tbu T) ∧ rh u 55 (tnb T) (tla T) ∧ rh u 56 (tnb T) (tst T) ∧ rh u 60 (tne T) (tek T) ∧ rh u 61 (tne T) (tew T) ∧ rh u 62 (tne T) (teb T) ∧ u.1 48 5 = nI (tnb T) ∧ u.1 48 14 = nI (tne T) ∧ u.1 48 18 = nI (tlo T)
def MV (T : TD) (V : VS) (u : ST) : Prop := rh u 63 64 (vh V) ∧ rh u 64 (tnb T) (vis V) ∧ (∀ k, k < tnb T → u.1 65 k = nmv (vnm V k)) ∧ rh u 66 (tnb T) (vgr V) ∧ rh u 67 (tnb T) (vho V) ∧ u.1 48 24 = fwv (vfw V) ∧ u.1 48 25 = nmv (vfb V)
theorem MT.keep {T : TD} {u v : ST} {ks : List Nat} (h : MT T u) (hf : fr ks u v) (hk : 48 ∉ ks ∧ 52 ∉ ks ∧ 53 ∉ ks ∧ 54 ∉ ks ∧ 55 ∉ ks ∧ 56 ∉ ks ∧ 60 ∉ ks ∧ 61 ∉ ks ∧ 62 ∉ ks) : MT T v := by
  obtain ⟨h1, h2, h3, h4, h5, h6, h7, h8, h9, h10, h11⟩ := h
  obtain ⟨k0, k1, k2, k3, k4, k5, k6, k7, k8⟩ := hk
  exact ⟨h1.keep hf k1, h2.keep hf k2, h3.keep hf k3, h4.keep hf k4, h5.keep hf k5, h6.keep hf k6, h7.keep hf k7, h8.keep hf k8, by rw [hf 48 k0]; exact h9, by rw [hf 48 k0]; exact h10, by rw [hf 48 k0]; exact h11⟩
theorem le_nI {x : Int32} {n : Nat} (hn : n + 1 < 2147483648) : x ≤ nI n ↔ x < nI (n + 1) := by
  rw [Int32.le_iff_toInt_le, Int32.lt_iff_toInt_lt, nI_toInt (by omega), nI_toInt (by omega)]
  omega
theorem m_in (S : ST) (x l h : Int32) : EX me_R_in 0 [.int x, .int l, .int h] S (fun r u => r = some (.int (b2 (l ≤ x ∧ x ≤ h))) ∧ u = S) := by
  refine EX.of mok_R_in (Nat.le_of_ble_eq_true rfl) ?_
  refine run_ok 2 (c' := (2, [(0, .int x), (1, .int l), (2, .int h)], [.int l, .int x], S)) rfl ?_
  refine x_icmp_lt 14 rfl rfl (fun h2 => ?_) (fun h2 => ?_)
  · refine run_ok 1 (c' := (15, [(0, .int x), (1, .int l), (2, .int h)], [.int (nI 0)], S)) rfl ?_
    exact x_ret (r := some (.int (nI 0))) rfl rfl (Or.inl rfl) ⟨congrArg (fun z => some (Value.int z)) (b2_f (fun z => by first | exact absurd h7 (Int32.not_lt.mpr z.2) | exact absurd h2 (Int32.not_lt.mpr z.1))).symm, rfl⟩ rfl
  · refine run_ok 2 (c' := (7, [(0, .int x), (1, .int l), (2, .int h)], [.int h, .int x], S)) rfl ?_
    refine x_icmp_gt 14 rfl rfl (fun h7 => ?_) (fun h7 => ?_)
    · refine run_ok 1 (c' := (15, [(0, .int x), (1, .int l), (2, .int h)], [.int (nI 0)], S)) rfl ?_
      exact x_ret (r := some (.int (nI 0))) rfl rfl (Or.inl rfl) ⟨congrArg (fun z => some (Value.int z)) (b2_f (fun z => by first | exact absurd h7 (Int32.not_lt.mpr z.2) | exact absurd h2 (Int32.not_lt.mpr z.1))).symm, rfl⟩ rfl
    · refine run_ok 2 (c' := (15, [(0, .int x), (1, .int l), (2, .int h)], [.int (nI 1)], S)) rfl ?_
      exact x_ret (r := some (.int (nI 1))) rfl rfl (Or.inr rfl) ⟨congrArg (fun z => some (Value.int z)) (b2_t ⟨Int32.not_lt.mp h2, Int32.not_lt.mp h7⟩).symm, rfl⟩ rfl

theorem m_isText (S : ST) (x : Int32) : EX me_R_isText 1 [.int x] S (fun r u => r = some (.int (b2 (0 ≤ x ∧ x < nI 2))) ∧ u = S) := by
  refine EX.of mok_R_isText (Nat.le_of_ble_eq_true rfl) ?_
  refine run_ok 3 (c' := (3, [(0, .int x)], [.int (nI 1), .int (nI 0), .int x], S)) rfl ?_
  refine x_callS [.int x, .int (nI 0), .int (nI 1)] rfl cs_R_in.1 lk_7_115 cs_R_in.2.1 rfl rfl (Nat.le_of_ble_eq_true rfl) (by decide) cs_R_in.2.2 (m_in S (x) (nI 0) (nI 1)) ?_
  rintro r u ⟨hr, hu⟩
  rw [hr, hu]
  clear hr hu r u
  exact x_ret (r := some (.int (b2 (nI 0 ≤ x ∧ x ≤ nI 1)))) rfl rfl (b2_01 _) ⟨congrArg (fun z => some (Value.int z)) (b2_c (and_congr Iff.rfl (le_nI (n := 1) (by decide)))), rfl⟩ rfl

theorem m_isWeek (S : ST) (x : Int32) : EX me_R_isWeek 1 [.int x] S (fun r u => r = some (.int (b2 (0 ≤ x ∧ x < nI 24))) ∧ u = S) := by
  refine EX.of mok_R_isWeek (Nat.le_of_ble_eq_true rfl) ?_
  refine run_ok 3 (c' := (4, [(0, .int x)], [.int (nI 23), .int (nI 0), .int x], S)) rfl ?_
  refine x_callS [.int x, .int (nI 0), .int (nI 23)] rfl cs_R_in.1 lk_7_115 cs_R_in.2.1 rfl rfl (Nat.le_of_ble_eq_true rfl) (by decide) cs_R_in.2.2 (m_in S (x) (nI 0) (nI 23)) ?_
  rintro r u ⟨hr, hu⟩
  rw [hr, hu]
  clear hr hu r u
  exact x_ret (r := some (.int (b2 (nI 0 ≤ x ∧ x ≤ nI 23)))) rfl rfl (b2_01 _) ⟨congrArg (fun z => some (Value.int z)) (b2_c (and_congr Iff.rfl (le_nI (n := 23) (by decide)))), rfl⟩ rfl

theorem m_isTwo (S : ST) (x : Int32) : EX me_R_isTwo 1 [.int x] S (fun r u => r = some (.int (b2 (0 ≤ x ∧ x < nI 2))) ∧ u = S) := by
  refine EX.of mok_R_isTwo (Nat.le_of_ble_eq_true rfl) ?_
  refine run_ok 3 (c' := (3, [(0, .int x)], [.int (nI 1), .int (nI 0), .int x], S)) rfl ?_
  refine x_callS [.int x, .int (nI 0), .int (nI 1)] rfl cs_R_in.1 lk_7_115 cs_R_in.2.1 rfl rfl (Nat.le_of_ble_eq_true rfl) (by decide) cs_R_in.2.2 (m_in S (x) (nI 0) (nI 1)) ?_
  rintro r u ⟨hr, hu⟩
  rw [hr, hu]
  clear hr hu r u
  exact x_ret (r := some (.int (b2 (nI 0 ≤ x ∧ x ≤ nI 1)))) rfl rfl (b2_01 _) ⟨congrArg (fun z => some (Value.int z)) (b2_c (and_congr Iff.rfl (le_nI (n := 1) (by decide)))), rfl⟩ rfl

theorem m_isEight (S : ST) (x : Int32) : EX me_R_isEight 1 [.int x] S (fun r u => r = some (.int (b2 (0 ≤ x ∧ x < nI 8))) ∧ u = S) := by
  refine EX.of mok_R_isEight (Nat.le_of_ble_eq_true rfl) ?_
  refine run_ok 3 (c' := (4, [(0, .int x)], [.int (nI 7), .int (nI 0), .int x], S)) rfl ?_
  refine x_callS [.int x, .int (nI 0), .int (nI 7)] rfl cs_R_in.1 lk_7_115 cs_R_in.2.1 rfl rfl (Nat.le_of_ble_eq_true rfl) (by decide) cs_R_in.2.2 (m_in S (x) (nI 0) (nI 7)) ?_
  rintro r u ⟨hr, hu⟩
  rw [hr, hu]
  clear hr hu r u
  exact x_ret (r := some (.int (b2 (nI 0 ≤ x ∧ x ≤ nI 7)))) rfl rfl (b2_01 _) ⟨congrArg (fun z => some (Value.int z)) (b2_c (and_congr Iff.rfl (le_nI (n := 7) (by decide)))), rfl⟩ rfl

theorem m_isSheet (S : ST) (x : Int32) : EX me_R_isSheet 1 [.int x] S (fun r u => r = some (.int (b2 (0 ≤ x ∧ x < nI 4))) ∧ u = S) := by
  refine EX.of mok_R_isSheet (Nat.le_of_ble_eq_true rfl) ?_
  refine run_ok 3 (c' := (3, [(0, .int x)], [.int (nI 3), .int (nI 0), .int x], S)) rfl ?_
  refine x_callS [.int x, .int (nI 0), .int (nI 3)] rfl cs_R_in.1 lk_7_115 cs_R_in.2.1 rfl rfl (Nat.le_of_ble_eq_true rfl) (by decide) cs_R_in.2.2 (m_in S (x) (nI 0) (nI 3)) ?_
  rintro r u ⟨hr, hu⟩
  rw [hr, hu]
  clear hr hu r u
  exact x_ret (r := some (.int (b2 (nI 0 ≤ x ∧ x ≤ nI 3)))) rfl rfl (b2_01 _) ⟨congrArg (fun z => some (Value.int z)) (b2_c (and_congr Iff.rfl (le_nI (n := 3) (by decide)))), rfl⟩ rfl

theorem m_areTwo (S : ST) (x y : Int32) : EX me_R_areTwo 2 [.int x, .int y] S (fun r u => r = some (.int (b2 ((0 ≤ x ∧ x < nI 8) ∧ (0 ≤ y ∧ y < nI 8) ∧ ¬ x = y))) ∧ u = S) := by
  refine EX.of mok_R_areTwo (Nat.le_of_ble_eq_true rfl) ?_
  refine run_ok 1 (c' := (1, [(0, .int x), (1, .int y)], [.int x], S)) rfl ?_
  refine x_callS [.int x] rfl cs_R_isEight.1 lk_7_119 cs_R_isEight.2.1 rfl rfl (Nat.le_of_ble_eq_true rfl) (by decide) cs_R_isEight.2.2 (m_isEight S (x)) ?_
  rintro r u ⟨hr, hu⟩
  rw [hr, hu]
  clear hr hu r u
  refine x_ifB_eq 23 rfl rfl (fun h4 => ?_) (fun h4 => ?_)
  · refine run_ok 1 (c' := (24, [(0, .int x), (1, .int y)], [.int (nI 0)], S)) rfl ?_
    exact x_ret (r := some (.int (nI 0))) rfl rfl (Or.inl rfl) ⟨congrArg (fun z => some (Value.int z)) (b2_f (fun z => by first | exact absurd h16 z.2.2 | exact absurd z.2.1 h11 | exact absurd z.1 h4)).symm, rfl⟩ rfl
  · refine run_ok 1 (c' := (8, [(0, .int x), (1, .int y)], [.int y], S)) rfl ?_
    refine x_callS [.int y] rfl cs_R_isEight.1 lk_7_119 cs_R_isEight.2.1 rfl rfl (Nat.le_of_ble_eq_true rfl) (by decide) cs_R_isEight.2.2 (m_isEight S (y)) ?_
    rintro r u ⟨hr, hu⟩
    rw [hr, hu]
    clear hr hu r u
    refine x_ifB_eq 23 rfl rfl (fun h11 => ?_) (fun h11 => ?_)
    · refine run_ok 1 (c' := (24, [(0, .int x), (1, .int y)], [.int (nI 0)], S)) rfl ?_
      exact x_ret (r := some (.int (nI 0))) rfl rfl (Or.inl rfl) ⟨congrArg (fun z => some (Value.int z)) (b2_f (fun z => by first | exact absurd h16 z.2.2 | exact absurd z.2.1 h11 | exact absurd z.1 h4)).symm, rfl⟩ rfl
    · refine run_ok 2 (c' := (16, [(0, .int x), (1, .int y)], [.int y, .int x], S)) rfl ?_
      refine x_icmp_eq 23 rfl rfl (fun h16 => ?_) (fun h16 => ?_)
      · refine run_ok 1 (c' := (24, [(0, .int x), (1, .int y)], [.int (nI 0)], S)) rfl ?_
        exact x_ret (r := some (.int (nI 0))) rfl rfl (Or.inl rfl) ⟨congrArg (fun z => some (Value.int z)) (b2_f (fun z => by first | exact absurd h16 z.2.2 | exact absurd z.2.1 h11 | exact absurd z.1 h4)).symm, rfl⟩ rfl
      · refine run_ok 2 (c' := (24, [(0, .int x), (1, .int y)], [.int (nI 1)], S)) rfl ?_
        exact x_ret (r := some (.int (nI 1))) rfl rfl (Or.inr rfl) ⟨congrArg (fun z => some (Value.int z)) (b2_t ⟨h4, h11, h16⟩).symm, rfl⟩ rfl

theorem m_isIn (S : ST) (m k : Nat) (hm : m < 2147483648) (hk : k < 32) : EX me_R_isIn 0 [.int (nI m), .int (nI k)] S (fun r u => r = some (.int (b2 (m.testBit k = true))) ∧ u = S) := by
  refine EX.of mok_R_isIn (Nat.le_of_ble_eq_true rfl) ?_
  refine run_ok 5 (c' := (5, [(0, .int (nI m)), (1, .int (nI k))], [.int (((nI m) >>> ((nI k) &&& 31)) &&& (nI 1))], S)) rfl ?_
  refine x_top (v' := b2 (m.testBit k = true)) (bit_b hm hk) ?_
  refine run_ok 1 (c' := (6, [(0, .int (nI m)), (1, .int (nI k))], [.int (nI 1), .int (b2 (m.testBit k = true))], S)) rfl ?_
  refine x_icmpB_ne 13 rfl rfl (fun h6 => ?_) (fun h6 => ?_)
  · refine run_ok 1 (c' := (14, [(0, .int (nI m)), (1, .int (nI k))], [.int (nI 0)], S)) rfl ?_
    exact x_ret (r := some (.int (nI 0))) rfl rfl (Or.inl rfl) ⟨congrArg (fun z => some (Value.int z)) (b2_f h6).symm, rfl⟩ rfl
  · refine run_ok 2 (c' := (14, [(0, .int (nI m)), (1, .int (nI k))], [.int (nI 1)], S)) rfl ?_
    exact x_ret (r := some (.int (nI 1))) rfl rfl (Or.inr rfl) ⟨congrArg (fun z => some (Value.int z)) (b2_t h6).symm, rfl⟩ rfl

set_option maxHeartbeats 2000000 in
theorem m_storms (S : ST) (T : TD) (V : VS) (hT : MT T S) (hto : tok T) (his : rh S 64 (tnb T) (vis V)) (hho : rh S 67 (tnb T) (vho V)) (hho9 : ∀ k, k < tnb T → vho V k ≤ 9) (hv3 : ∀ k, k < 8 → vis V k ≤ 3) : EX me_R_storms 0 [.ref 48] S (fun r u => r = none ∧ rh u 67 (tnb T) (vho (stm T V)) ∧ fr [67] S u ∧ u.2 = S.2) := by
  refine EX.of mok_R_storms (Nat.le_of_ble_eq_true rfl) ?_
  obtain ⟨n8, n9, hbt, het, hht, hlo⟩ := id hto
  have H : ∀ i, i ≤ tnb T → ∀ u : ST, rh u 67 (tnb T) (stmk T V i) → fr [67] S u → u.2 = S.2 → BX me_R_storms 0 none (fun r u => r = none ∧ rh u 67 (tnb T) (vho (stm T V)) ∧ fr [67] S u ∧ u.2 = S.2) (2, [(0, .ref 48), (1, .int (nI i))], [], u) := by
    refine loop_up (P := fun i => ∀ u : ST, rh u 67 (tnb T) (stmk T V i) → fr [67] S u → u.2 = S.2 → BX me_R_storms 0 none (fun r u => r = none ∧ rh u 67 (tnb T) (vho (stm T V)) ∧ fr [67] S u ∧ u.2 = S.2) (2, [(0, .ref 48), (1, .int (nI i))], [], u)) (tnb T) ?_ ?_
    · intro u h67 hf h2
      have hTu : MT T u := hT.keep hf (by decide)
      obtain ⟨t1, t2, t3, t4, t5, t6, t7, t8, t9, t10, t11⟩ := id hTu
      have m2 : rh u 64 (tnb T) (vis V) := his.keep hf (by decide)
      refine run_ok 3 (c' := (7, [(0, .ref 48), (1, .int (nI (tnb T)))], [.int (u.1 48 5), .int (nI (tnb T))], u)) rfl ?_
      refine x_top (v' := nI (tnb T)) t9 ?_
      refine x_icmpN_ge 70 rfl rfl (by omega) (by omega) (fun h7 => ?_) (fun hn => absurd (Nat.le_refl _) hn)
      exact x_ret (r := none) rfl rfl trivial ⟨rfl, h67, hf, h2⟩ rfl
    · intro i hi ih u h67 hf h2
      have q1 := hv3 i (by omega)
      have q2 := (hbt i hi).1
      have q3 := hho9 i hi
      have hTu : MT T u := hT.keep hf (by decide)
      obtain ⟨t1, t2, t3, t4, t5, t6, t7, t8, t9, t10, t11⟩ := id hTu
      have m2 : rh u 64 (tnb T) (vis V) := his.keep hf (by decide)
      refine run_ok 3 (c' := (7, [(0, .ref 48), (1, .int (nI i))], [.int (u.1 48 5), .int (nI i)], u)) rfl ?_
      refine x_top (v' := nI (tnb T)) t9 ?_
      refine x_icmpN_ge 70 rfl rfl (by omega) (by omega) (fun hn => absurd hn (show ¬ tnb T ≤ i by omega)) (fun h7 => ?_)
      refine run_ok 3 (c' := (15, [(0, .ref 48), (1, .int (nI i))], [.int (nI i), .ref 53], u)) rfl ?_
      refine x_iaN (nI (tso T i)) rfl rfl (by decide) (by omega) (t2 i (by omega)) ?_
      refine run_ok 1 (c' := (17, [(0, .ref 48), (1, .int (nI i))], [.int (nI 2), .int (nI (tso T i))], u)) rfl ?_
      refine x_icmpN_ne 24 rfl rfl (by omega) (by omega) (fun h17 => ?_) (fun h17 => ?_)
      · refine run_ok 5 (c' := (31, [(0, .ref 48), (1, .int (nI i)), (2, .int (nI 1))], [.int (nI i), .ref 64], u)) rfl ?_
        refine x_iaN (nI (vis V i)) rfl rfl (by decide) (by omega) (m2 i (by omega)) ?_
        refine run_ok 1 (c' := (33, [(0, .ref 48), (1, .int (nI i)), (2, .int (nI 1))], [.int (nI 1), .int (nI (vis V i))], u)) rfl ?_
        refine x_icmpN_ne 64 rfl rfl (by omega) (by omega) (fun h33 => ?_) (fun h33 => ?_)
        · refine run_ok 1 (c' := (67, [(0, .ref 48), (1, .int (nI i + nI 1)), (2, .int (nI 1))], [], u)) rfl ?_
          rw [nI_add i 1]
          refine run_ok 1 (c' := (2, [(0, .ref 48), (1, .int (nI (i + 1))), (2, .int (nI 1))], [], u)) rfl ?_
          refine x_less [0, 1] rfl ?_
          exact ih _ (h67.cg (fun j _ => stmk_b h33 j)) hf h2
        · refine run_ok 6 (c' := (46, [(0, .ref 48), (1, .int (nI i)), (2, .int (nI 1))], [.int (nI i), .ref 67, .int (nI i), .ref 67], u)) rfl ?_
          refine x_iaN (nI (vho V i)) rfl rfl (by decide) (by omega) (by rw [← stmk_c T V i]; exact h67 i hi) ?_
          refine run_ok 1 (c' := (48, [(0, .ref 48), (1, .int (nI i)), (2, .int (nI 1))], [.int (nI 1), .int (nI (vho V i)), .int (nI i), .ref 67], u)) rfl ?_
          refine x_icmpN_le 62 rfl rfl (by omega) (by omega) (fun h48 => ?_) (fun h48 => ?_)
          · refine run_ok 1 (c' := (63, [(0, .ref 48), (1, .int (nI i)), (2, .int (nI 1))], [.int (nI 0), .int (nI i), .ref 67], u)) rfl ?_
            refine x_isN rfl rfl (by decide) (by omega) ?_
            refine run_ok 1 (c' := (67, [(0, .ref 48), (1, .int (nI i + nI 1)), (2, .int (nI 1))], [], (pt u 67 i (nI 0)))) rfl ?_
            rw [nI_add i 1]
            refine run_ok 1 (c' := (2, [(0, .ref 48), (1, .int (nI (i + 1))), (2, .int (nI 1))], [], (pt u 67 i (nI 0)))) rfl ?_
            refine x_less [0, 1] rfl ?_
            exact ih _ ((h67.putv (v := vho V i - 1) (by rw [show vho V i - 1 = 0 by omega])).cg (fun j _ => stmk_a h33 (if_neg h17) j)) (hf.pt (by decide)) h2
          · refine run_ok 3 (c' := (56, [(0, .ref 48), (1, .int (nI i)), (2, .int (nI 1))], [.int (nI i), .ref 67, .int (nI i), .ref 67], u)) rfl ?_
            refine x_iaN (nI (vho V i)) rfl rfl (by decide) (by omega) (by rw [← stmk_c T V i]; exact h67 i hi) ?_
            refine run_ok 3 (c' := (63, [(0, .ref 48), (1, .int (nI i)), (2, .int (nI 1))], [.int ((nI (vho V i)) - (nI 1)), .int (nI i), .ref 67], u)) rfl ?_
            refine x_isN rfl rfl (by decide) (by omega) ?_
            refine run_ok 1 (c' := (67, [(0, .ref 48), (1, .int (nI i + nI 1)), (2, .int (nI 1))], [], (pt u 67 i ((nI (vho V i)) - (nI 1))))) rfl ?_
            rw [nI_add i 1]
            refine run_ok 1 (c' := (2, [(0, .ref 48), (1, .int (nI (i + 1))), (2, .int (nI 1))], [], (pt u 67 i ((nI (vho V i)) - (nI 1))))) rfl ?_
            refine x_less [0, 1] rfl ?_
            exact ih _ ((h67.putv (v := vho V i - 1) (pk_sub (by omega))).cg (fun j _ => stmk_a h33 (if_neg h17) j)) (hf.pt (by decide)) h2
      · refine run_ok 6 (c' := (31, [(0, .ref 48), (1, .int (nI i)), (2, .int (nI 2))], [.int (nI i), .ref 64], u)) rfl ?_
        refine x_iaN (nI (vis V i)) rfl rfl (by decide) (by omega) (m2 i (by omega)) ?_
        refine run_ok 1 (c' := (33, [(0, .ref 48), (1, .int (nI i)), (2, .int (nI 2))], [.int (nI 1), .int (nI (vis V i))], u)) rfl ?_
        refine x_icmpN_ne 64 rfl rfl (by omega) (by omega) (fun h33 => ?_) (fun h33 => ?_)
        · refine run_ok 1 (c' := (67, [(0, .ref 48), (1, .int (nI i + nI 1)), (2, .int (nI 2))], [], u)) rfl ?_
          rw [nI_add i 1]
          refine run_ok 1 (c' := (2, [(0, .ref 48), (1, .int (nI (i + 1))), (2, .int (nI 2))], [], u)) rfl ?_
          refine x_less [0, 1] rfl ?_
          exact ih _ (h67.cg (fun j _ => stmk_b h33 j)) hf h2
        · refine run_ok 6 (c' := (46, [(0, .ref 48), (1, .int (nI i)), (2, .int (nI 2))], [.int (nI i), .ref 67, .int (nI i), .ref 67], u)) rfl ?_
          refine x_iaN (nI (vho V i)) rfl rfl (by decide) (by omega) (by rw [← stmk_c T V i]; exact h67 i hi) ?_
          refine run_ok 1 (c' := (48, [(0, .ref 48), (1, .int (nI i)), (2, .int (nI 2))], [.int (nI 2), .int (nI (vho V i)), .int (nI i), .ref 67], u)) rfl ?_
          refine x_icmpN_le 62 rfl rfl (by omega) (by omega) (fun h48 => ?_) (fun h48 => ?_)
          · refine run_ok 1 (c' := (63, [(0, .ref 48), (1, .int (nI i)), (2, .int (nI 2))], [.int (nI 0), .int (nI i), .ref 67], u)) rfl ?_
            refine x_isN rfl rfl (by decide) (by omega) ?_
            refine run_ok 1 (c' := (67, [(0, .ref 48), (1, .int (nI i + nI 1)), (2, .int (nI 2))], [], (pt u 67 i (nI 0)))) rfl ?_
            rw [nI_add i 1]
            refine run_ok 1 (c' := (2, [(0, .ref 48), (1, .int (nI (i + 1))), (2, .int (nI 2))], [], (pt u 67 i (nI 0)))) rfl ?_
            refine x_less [0, 1] rfl ?_
            exact ih _ ((h67.putv (v := vho V i - 2) (by rw [show vho V i - 2 = 0 by omega])).cg (fun j _ => stmk_a h33 (if_pos h17) j)) (hf.pt (by decide)) h2
          · refine run_ok 3 (c' := (56, [(0, .ref 48), (1, .int (nI i)), (2, .int (nI 2))], [.int (nI i), .ref 67, .int (nI i), .ref 67], u)) rfl ?_
            refine x_iaN (nI (vho V i)) rfl rfl (by decide) (by omega) (by rw [← stmk_c T V i]; exact h67 i hi) ?_
            refine run_ok 3 (c' := (63, [(0, .ref 48), (1, .int (nI i)), (2, .int (nI 2))], [.int ((nI (vho V i)) - (nI 2)), .int (nI i), .ref 67], u)) rfl ?_
            refine x_isN rfl rfl (by decide) (by omega) ?_
            refine run_ok 1 (c' := (67, [(0, .ref 48), (1, .int (nI i + nI 1)), (2, .int (nI 2))], [], (pt u 67 i ((nI (vho V i)) - (nI 2))))) rfl ?_
            rw [nI_add i 1]
            refine run_ok 1 (c' := (2, [(0, .ref 48), (1, .int (nI (i + 1))), (2, .int (nI 2))], [], (pt u 67 i ((nI (vho V i)) - (nI 2))))) rfl ?_
            refine x_less [0, 1] rfl ?_
            exact ih _ ((h67.putv (v := vho V i - 2) (pk_sub (by omega))).cg (fun j _ => stmk_a h33 (if_pos h17) j)) (hf.pt (by decide)) h2
  refine run_ok 2 (c' := (2, [(0, .ref 48), (1, .int (nI 0))], [], S)) rfl ?_
  exact H 0 (Nat.zero_le _) S (hho.cg (fun j _ => stmk_0 T V j)) fr.rf rfl


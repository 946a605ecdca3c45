/-! what is asked of a voyage -/
def shs (h : Nat → Nat) (p : Nat) : Nat → Nat
  | 0 => 0
  | n + 1 => shs h p n + h (8 * p + n)
def sha_ (h : Nat → Nat) : Nat → Nat
  | 0 => 0
  | n + 1 => sha_ h n + shs h n 8
def nmb (T : TD) (V : VS) (w k : Nat) : Nat := if tla T k ≤ w ∧ vnm V k ≠ 8 then vnm V k else 8
theorem nmv_eqp {n p : Nat} (hn : n ≤ 8) (hp : p < 8) : nmv n = nI p ↔ n = p := by
  by_cases e8 : n = 8
  · subst e8
    refine ⟨fun z => ?_, fun z => by omega⟩
    have y2 := congrArg Int32.toInt z
    rw [nI_toInt (by omega), nmv_8] at y2
    have y3 : ((-1 : Int32)).toInt = -1 := by decide
    omega
  · rw [nmv_lt (by omega)]
    exact nI_eqI (by omega) (by omega)
def nro (f : Nat → Nat) : Nat → Nat
  | 0 => 0
  | k + 1 => nro f k + f k * 16 ^ k
theorem cnt_s {p : Nat → Bool} {i : Nat} (h : p i = true) : cnt p (i + 1) = cnt p i + 1 := by
  show cnt p i + (if p i = true then 1 else 0) = _
  rw [if_pos h]
theorem cnt_z {p : Nat → Bool} {i : Nat} (h : p i = false) : cnt p (i + 1) = cnt p i := by
  show cnt p i + (if p i = true then 1 else 0) = _
  rw [if_neg (by rw [h]; decide)]
  rfl
set_option maxHeartbeats 2000000 in
theorem c_hatredOf (S : ST) (V : VS) (p : Nat) (hp : p < 8) (h24 : rh S 24 64 (vh V)) : EX me_V_hatredOf 1 [.ref 23, .int (nI p)] S (fun r u => r = some (.int (nI (shs (vh V) p 8))) ∧ u = S) := by
  refine EX.of mok_V_hatredOf (Nat.le_of_ble_eq_true rfl) ?_
  have H : ∀ i, i ≤ 8 → BX me_V_hatredOf 1 none (fun r u => r = some (.int (nI (shs (vh V) p 8))) ∧ u = S) (4, [(0, .ref 23), (1, .int (nI p)), (2, .int (nI (shs (vh V) p i))), (3, .int (nI i))], [], S) := by
    refine loop_up (P := fun i => BX me_V_hatredOf 1 none (fun r u => r = some (.int (nI (shs (vh V) p 8))) ∧ u = S) (4, [(0, .ref 23), (1, .int (nI p)), (2, .int (nI (shs (vh V) p i))), (3, .int (nI i))], [], S)) (8) ?_ ?_
    · skip
      refine run_ok 2 (c' := (7, [(0, .ref 23), (1, .int (nI p)), (2, .int (nI (shs (vh V) p 8))), (3, .int (nI 8))], [.int (nI 8), .int (nI 8)], S)) rfl ?_
      refine x_icmpN_ge 29 rfl rfl (by omega) (by omega) (fun h7 => ?_) (fun hn => absurd (Nat.le_refl 8) hn)
      refine run_ok 1 (c' := (30, [(0, .ref 23), (1, .int (nI p)), (2, .int (nI (shs (vh V) p 8))), (3, .int (nI 8))], [.int (nI (shs (vh V) p 8))], S)) rfl ?_
      exact x_ret (r := some (.int (nI (shs (vh V) p 8)))) rfl rfl trivial ⟨rfl, rfl⟩ rfl
    · intro i hi ih
      refine run_ok 2 (c' := (7, [(0, .ref 23), (1, .int (nI p)), (2, .int (nI (shs (vh V) p i))), (3, .int (nI i))], [.int (nI 8), .int (nI i)], S)) rfl ?_
      refine x_icmpN_ge 29 rfl rfl (by omega) (by omega) (fun hn => absurd hn (show ¬ 8 ≤ i by omega)) (fun h7 => ?_)
      refine run_ok 5 (c' := (17, [(0, .ref 23), (1, .int (nI p)), (2, .int (nI (shs (vh V) p i))), (3, .int (nI i))], [.int (nI i), .int (nI p), .ref 24, .int (nI (shs (vh V) p i))], S)) rfl ?_
      refine x_callN [.int (nI p), .int (nI i)] rfl cs_N_pair.1 (fun U hU => hU.2.1) cs_N_pair.2.1 rfl rfl (Nat.le_of_ble_eq_true rfl) (by decide) cs_N_pair.2.2 (c_pair S (nI p) (nI i)) ?_
      rintro r u ⟨hr, hu⟩
      rw [hr, hu]
      clear hr hu r u
      refine x_top (v' := nI (p * 8 + i)) (by rw [pk_mul, nI_add]) ?_
      refine x_iaN (nI (vh V (8 * p + i))) rfl rfl (by decide) (by omega) (by rw [show p * 8 + i = 8 * p + i by omega]; exact h24 _ (by omega)) ?_
      refine run_ok 1 (c' := (22, [(0, .ref 23), (1, .int (nI p)), (2, .int (nI (shs (vh V) p i))), (3, .int (nI i))], [.int ((nI (shs (vh V) p i)) + (nI (vh V (8 * p + i))))], S)) rfl ?_
      refine x_top (v' := nI ((shs (vh V) p i) + (vh V (8 * p + i)))) (nI_add _ _) ?_
      refine run_ok 2 (c' := (26, [(0, .ref 23), (1, .int (nI p)), (2, .int (nI ((shs (vh V) p i) + (vh V (8 * p + i))))), (3, .int (nI i + nI 1))], [], S)) rfl ?_
      rw [nI_add i 1]
      refine run_ok 1 (c' := (4, [(0, .ref 23), (1, .int (nI p)), (2, .int (nI ((shs (vh V) p i) + (vh V (8 * p + i))))), (3, .int (nI (i + 1)))], [], S)) rfl ?_
      rw [show shs (vh V) p i + vh V (8 * p + i) = shs (vh V) p (i + 1) from rfl]
      exact ih
  refine run_ok 4 (c' := (4, [(0, .ref 23), (1, .int (nI p)), (2, .int (nI 0)), (3, .int (nI 0))], [], S)) rfl ?_
  exact H 0 (Nat.zero_le _)

set_option maxHeartbeats 2000000 in
theorem c_allHatred (S : ST) (V : VS) (h24 : rh S 24 64 (vh V)) : EX me_V_allHatred 2 [.ref 23] S (fun r u => r = some (.int (nI (sha_ (vh V) 8))) ∧ u = S) := by
  refine EX.of mok_V_allHatred (Nat.le_of_ble_eq_true rfl) ?_
  have H : ∀ i, i ≤ 8 → BX me_V_allHatred 2 none (fun r u => r = some (.int (nI (sha_ (vh V) 8))) ∧ u = S) (4, [(0, .ref 23), (1, .int (nI (sha_ (vh V) i))), (2, .int (nI i))], [], S) := by
    refine loop_up (P := fun i => BX me_V_allHatred 2 none (fun r u => r = some (.int (nI (sha_ (vh V) 8))) ∧ u = S) (4, [(0, .ref 23), (1, .int (nI (sha_ (vh V) i))), (2, .int (nI i))], [], S)) (8) ?_ ?_
    · skip
      refine run_ok 2 (c' := (7, [(0, .ref 23), (1, .int (nI (sha_ (vh V) 8))), (2, .int (nI 8))], [.int (nI 8), .int (nI 8)], S)) rfl ?_
      refine x_icmpN_ge 24 rfl rfl (by omega) (by omega) (fun h7 => ?_) (fun hn => absurd (Nat.le_refl 8) hn)
      refine run_ok 1 (c' := (25, [(0, .ref 23), (1, .int (nI (sha_ (vh V) 8))), (2, .int (nI 8))], [.int (nI (sha_ (vh V) 8))], S)) rfl ?_
      exact x_ret (r := some (.int (nI (sha_ (vh V) 8)))) rfl rfl trivial ⟨rfl, rfl⟩ rfl
    · intro i hi ih
      refine run_ok 2 (c' := (7, [(0, .ref 23), (1, .int (nI (sha_ (vh V) i))), (2, .int (nI i))], [.int (nI 8), .int (nI i)], S)) rfl ?_
      refine x_icmpN_ge 24 rfl rfl (by omega) (by omega) (fun hn => absurd hn (show ¬ 8 ≤ i by omega)) (fun h7 => ?_)
      refine run_ok 3 (c' := (13, [(0, .ref 23), (1, .int (nI (sha_ (vh V) i))), (2, .int (nI i))], [.int (nI i), .ref 23, .int (nI (sha_ (vh V) i))], S)) rfl ?_
      refine x_callV [.int (nI i)] rfl cv_V_hatredOf.1 lk_5_128 cv_V_hatredOf.2.1 cv_V_hatredOf.2.2.1 rfl cv_V_hatredOf.2.2.2.1 rfl rfl (Nat.le_of_ble_eq_true rfl) (by decide) cv_V_hatredOf.2.2.2.2 (c_hatredOf S V i hi h24) ?_
      rintro r u ⟨hr, hu⟩
      rw [hr, hu]
      clear hr hu r u
      refine run_ok 1 (c' := (17, [(0, .ref 23), (1, .int (nI (sha_ (vh V) i))), (2, .int (nI i))], [.int ((nI (sha_ (vh V) i)) + (nI (shs (vh V) i 8)))], S)) rfl ?_
      refine x_top (v' := nI ((sha_ (vh V) i) + (shs (vh V) i 8))) (nI_add _ _) ?_
      refine run_ok 2 (c' := (21, [(0, .ref 23), (1, .int (nI ((sha_ (vh V) i) + (shs (vh V) i 8)))), (2, .int (nI i + nI 1))], [], S)) rfl ?_
      rw [nI_add i 1]
      refine run_ok 1 (c' := (4, [(0, .ref 23), (1, .int (nI ((sha_ (vh V) i) + (shs (vh V) i 8)))), (2, .int (nI (i + 1)))], [], S)) rfl ?_
      rw [show sha_ (vh V) i + shs (vh V) i 8 = sha_ (vh V) (i + 1) from rfl]
      exact ih
  refine run_ok 4 (c' := (4, [(0, .ref 23), (1, .int (nI 0)), (2, .int (nI 0))], [], S)) rfl ?_
  exact H 0 (Nat.zero_le _)

set_option maxHeartbeats 2000000 in
theorem c_howMany5 (S : ST) (T : TD) (V : VS) (ls : Nat → Nat) (hT : TR 5 T S) (hto : tok T) (hC : CR 5 T V ls S) (hV : vk T V) (x : Nat) (hx : x ≤ 3) : EX me_V_howMany 0 [.ref 23, .int (nI x)] S (fun r u => r = some (.int (nI (cnt (fun k => decide (vis V k = x)) (tnb T)))) ∧ u = S) := by
  refine EX.of mok_V_howMany (Nat.le_of_ble_eq_true rfl) ?_
  obtain ⟨n8, n9, hbt, het, hht, hlo⟩ := id hto
  obtain ⟨t1, t2, t3, t4, t5, t6, t7, t8, t9, t10, t11⟩ := id hT
  obtain ⟨h24, h25, h26, h27, h28, h29, hsr, g9, g10, g11, htl⟩ := id hC
  obtain ⟨hh9, hv3, hb9, hfw, hfb⟩ := id hV
  have H : ∀ i, i ≤ tnb T → BX me_V_howMany 0 none (fun r u => r = some (.int (nI (cnt (fun k => decide (vis V k = x)) (tnb T)))) ∧ u = S) (4, [(0, .ref 23), (1, .int (nI x)), (2, .int (nI (cnt (fun k => decide (vis V k = x)) i))), (3, .int (nI i))], [], S) := by
    refine loop_up (P := fun i => BX me_V_howMany 0 none (fun r u => r = some (.int (nI (cnt (fun k => decide (vis V k = x)) (tnb T)))) ∧ u = S) (4, [(0, .ref 23), (1, .int (nI x)), (2, .int (nI (cnt (fun k => decide (vis V k = x)) i))), (3, .int (nI i))], [], S)) (tnb T) ?_ ?_
    · skip
      refine run_ok 2 (c' := (6, [(0, .ref 23), (1, .int (nI x)), (2, .int (nI (cnt (fun k => decide (vis V k = x)) (tnb T)))), (3, .int (nI (tnb T)))], [.ref 23, .int (nI (tnb T))], S)) rfl ?_
      refine x_gett (t := 5) rfl rfl htl ?_
      refine run_ok 1 (c' := (12, [(0, .ref 23), (1, .int (nI x)), (2, .int (nI (cnt (fun k => decide (vis V k = x)) (tnb T)))), (3, .int (nI (tnb T)))], [.int (S.1 5 6), .int (nI (tnb T))], S)) rfl ?_
      refine x_top (v' := nI (tnb T)) t9 ?_
      refine x_icmpN_ge 34 rfl rfl (by omega) (by omega) (fun h12 => ?_) (fun hn => absurd (Nat.le_refl _) hn)
      refine run_ok 1 (c' := (35, [(0, .ref 23), (1, .int (nI x)), (2, .int (nI (cnt (fun k => decide (vis V k = x)) (tnb T)))), (3, .int (nI (tnb T)))], [.int (nI (cnt (fun k => decide (vis V k = x)) (tnb T)))], S)) rfl ?_
      exact x_ret (r := some (.int (nI (cnt (fun k => decide (vis V k = x)) (tnb T))))) rfl rfl trivial ⟨rfl, rfl⟩ rfl
    · intro i hi ih
      have q1 := (hv3 i (by omega)).1
      refine run_ok 2 (c' := (6, [(0, .ref 23), (1, .int (nI x)), (2, .int (nI (cnt (fun k => decide (vis V k = x)) i))), (3, .int (nI i))], [.ref 23, .int (nI i)], S)) rfl ?_
      refine x_gett (t := 5) rfl rfl htl ?_
      refine run_ok 1 (c' := (12, [(0, .ref 23), (1, .int (nI x)), (2, .int (nI (cnt (fun k => decide (vis V k = x)) i))), (3, .int (nI i))], [.int (S.1 5 6), .int (nI i)], S)) rfl ?_
      refine x_top (v' := nI (tnb T)) t9 ?_
      refine x_icmpN_ge 34 rfl rfl (by omega) (by omega) (fun hn => absurd hn (show ¬ tnb T ≤ i by omega)) (fun h12 => ?_)
      refine run_ok 3 (c' := (20, [(0, .ref 23), (1, .int (nI x)), (2, .int (nI (cnt (fun k => decide (vis V k = x)) i))), (3, .int (nI i))], [.int (nI i), .ref 25], S)) rfl ?_
      refine x_iaN (nI (vis V i)) rfl rfl (by decide) (by omega) (h25 i (by omega)) ?_
      refine run_ok 1 (c' := (22, [(0, .ref 23), (1, .int (nI x)), (2, .int (nI (cnt (fun k => decide (vis V k = x)) i))), (3, .int (nI i))], [.int (nI x), .int (nI (vis V i))], S)) rfl ?_
      refine x_icmpN_ne 28 rfl rfl (by omega) (by omega) (fun h22 => ?_) (fun h22 => ?_)
      · refine run_ok 1 (c' := (31, [(0, .ref 23), (1, .int (nI x)), (2, .int (nI (cnt (fun k => decide (vis V k = x)) i))), (3, .int (nI i + nI 1))], [], S)) rfl ?_
        rw [nI_add i 1]
        refine run_ok 1 (c' := (4, [(0, .ref 23), (1, .int (nI x)), (2, .int (nI (cnt (fun k => decide (vis V k = x)) i))), (3, .int (nI (i + 1)))], [], S)) rfl ?_
        rw [show cnt (fun k => decide (vis V k = x)) (i + 1) = cnt (fun k => decide (vis V k = x)) i from cnt_z (by simpa using h22)] at ih
        exact ih
      · refine run_ok 1 (c' := (28, [(0, .ref 23), (1, .int (nI x)), (2, .int (nI (cnt (fun k => decide (vis V k = x)) i) + nI 1)), (3, .int (nI i))], [], S)) rfl ?_
        rw [nI_add (cnt (fun k => decide (vis V k = x)) i) 1]
        refine run_ok 1 (c' := (31, [(0, .ref 23), (1, .int (nI x)), (2, .int (nI (cnt (fun k => decide (vis V k = x)) i + 1))), (3, .int (nI i + nI 1))], [], S)) rfl ?_
        rw [nI_add i 1]
        refine run_ok 1 (c' := (4, [(0, .ref 23), (1, .int (nI x)), (2, .int (nI (cnt (fun k => decide (vis V k = x)) i + 1))), (3, .int (nI (i + 1)))], [], S)) rfl ?_
        rw [show cnt (fun k => decide (vis V k = x)) (i + 1) = cnt (fun k => decide (vis V k = x)) i + 1 from cnt_s (by simpa using h22)] at ih
        exact ih
  refine run_ok 4 (c' := (4, [(0, .ref 23), (1, .int (nI x)), (2, .int (nI 0)), (3, .int (nI 0))], [], S)) rfl ?_
  exact H 0 (Nat.zero_le _)

set_option maxHeartbeats 2000000 in
theorem c_howMany14 (S : ST) (T : TD) (V : VS) (ls : Nat → Nat) (hT : TR 14 T S) (hto : tok T) (hC : CR 14 T V ls S) (hV : vk T V) (x : Nat) (hx : x ≤ 3) : EX me_V_howMany 0 [.ref 23, .int (nI x)] S (fun r u => r = some (.int (nI (cnt (fun k => decide (vis V k = x)) (tnb T)))) ∧ u = S) := by
  refine EX.of mok_V_howMany (Nat.le_of_ble_eq_true rfl) ?_
  obtain ⟨n8, n9, hbt, het, hht, hlo⟩ := id hto
  obtain ⟨t1, t2, t3, t4, t5, t6, t7, t8, t9, t10, t11⟩ := id hT
  obtain ⟨h24, h25, h26, h27, h28, h29, hsr, g9, g10, g11, htl⟩ := id hC
  obtain ⟨hh9, hv3, hb9, hfw, hfb⟩ := id hV
  have H : ∀ i, i ≤ tnb T → BX me_V_howMany 0 none (fun r u => r = some (.int (nI (cnt (fun k => decide (vis V k = x)) (tnb T)))) ∧ u = S) (4, [(0, .ref 23), (1, .int (nI x)), (2, .int (nI (cnt (fun k => decide (vis V k = x)) i))), (3, .int (nI i))], [], S) := by
    refine loop_up (P := fun i => BX me_V_howMany 0 none (fun r u => r = some (.int (nI (cnt (fun k => decide (vis V k = x)) (tnb T)))) ∧ u = S) (4, [(0, .ref 23), (1, .int (nI x)), (2, .int (nI (cnt (fun k => decide (vis V k = x)) i))), (3, .int (nI i))], [], S)) (tnb T) ?_ ?_
    · skip
      refine run_ok 2 (c' := (6, [(0, .ref 23), (1, .int (nI x)), (2, .int (nI (cnt (fun k => decide (vis V k = x)) (tnb T)))), (3, .int (nI (tnb T)))], [.ref 23, .int (nI (tnb T))], S)) rfl ?_
      refine x_gett (t := 14) rfl rfl htl ?_
      refine run_ok 1 (c' := (12, [(0, .ref 23), (1, .int (nI x)), (2, .int (nI (cnt (fun k => decide (vis V k = x)) (tnb T)))), (3, .int (nI (tnb T)))], [.int (S.1 14 6), .int (nI (tnb T))], S)) rfl ?_
      refine x_top (v' := nI (tnb T)) t9 ?_
      refine x_icmpN_ge 34 rfl rfl (by omega) (by omega) (fun h12 => ?_) (fun hn => absurd (Nat.le_refl _) hn)
      refine run_ok 1 (c' := (35, [(0, .ref 23), (1, .int (nI x)), (2, .int (nI (cnt (fun k => decide (vis V k = x)) (tnb T)))), (3, .int (nI (tnb T)))], [.int (nI (cnt (fun k => decide (vis V k = x)) (tnb T)))], S)) rfl ?_
      exact x_ret (r := some (.int (nI (cnt (fun k => decide (vis V k = x)) (tnb T))))) rfl rfl trivial ⟨rfl, rfl⟩ rfl
    · intro i hi ih
      have q1 := (hv3 i (by omega)).1
      refine run_ok 2 (c' := (6, [(0, .ref 23), (1, .int (nI x)), (2, .int (nI (cnt (fun k => decide (vis V k = x)) i))), (3, .int (nI i))], [.ref 23, .int (nI i)], S)) rfl ?_
      refine x_gett (t := 14) rfl rfl htl ?_
      refine run_ok 1 (c' := (12, [(0, .ref 23), (1, .int (nI x)), (2, .int (nI (cnt (fun k => decide (vis V k = x)) i))), (3, .int (nI i))], [.int (S.1 14 6), .int (nI i)], S)) rfl ?_
      refine x_top (v' := nI (tnb T)) t9 ?_
      refine x_icmpN_ge 34 rfl rfl (by omega) (by omega) (fun hn => absurd hn (show ¬ tnb T ≤ i by omega)) (fun h12 => ?_)
      refine run_ok 3 (c' := (20, [(0, .ref 23), (1, .int (nI x)), (2, .int (nI (cnt (fun k => decide (vis V k = x)) i))), (3, .int (nI i))], [.int (nI i), .ref 25], S)) rfl ?_
      refine x_iaN (nI (vis V i)) rfl rfl (by decide) (by omega) (h25 i (by omega)) ?_
      refine run_ok 1 (c' := (22, [(0, .ref 23), (1, .int (nI x)), (2, .int (nI (cnt (fun k => decide (vis V k = x)) i))), (3, .int (nI i))], [.int (nI x), .int (nI (vis V i))], S)) rfl ?_
      refine x_icmpN_ne 28 rfl rfl (by omega) (by omega) (fun h22 => ?_) (fun h22 => ?_)
      · refine run_ok 1 (c' := (31, [(0, .ref 23), (1, .int (nI x)), (2, .int (nI (cnt (fun k => decide (vis V k = x)) i))), (3, .int (nI i + nI 1))], [], S)) rfl ?_
        rw [nI_add i 1]
        refine run_ok 1 (c' := (4, [(0, .ref 23), (1, .int (nI x)), (2, .int (nI (cnt (fun k => decide (vis V k = x)) i))), (3, .int (nI (i + 1)))], [], S)) rfl ?_
        rw [show cnt (fun k => decide (vis V k = x)) (i + 1) = cnt (fun k => decide (vis V k = x)) i from cnt_z (by simpa using h22)] at ih
        exact ih
      · refine run_ok 1 (c' := (28, [(0, .ref 23), (1, .int (nI x)), (2, .int (nI (cnt (fun k => decide (vis V k = x)) i) + nI 1)), (3, .int (nI i))], [], S)) rfl ?_
        rw [nI_add (cnt (fun k => decide (vis V k = x)) i) 1]
        refine run_ok 1 (c' := (31, [(0, .ref 23), (1, .int (nI x)), (2, .int (nI (cnt (fun k => decide (vis V k = x)) i + 1))), (3, .int (nI i + nI 1))], [], S)) rfl ?_
        rw [nI_add i 1]
        refine run_ok 1 (c' := (4, [(0, .ref 23), (1, .int (nI x)), (2, .int (nI (cnt (fun k => decide (vis V k = x)) i + 1))), (3, .int (nI (i + 1)))], [], S)) rfl ?_
        rw [show cnt (fun k => decide (vis V k = x)) (i + 1) = cnt (fun k => decide (vis V k = x)) i + 1 from cnt_s (by simpa using h22)] at ih
        exact ih
  refine run_ok 4 (c' := (4, [(0, .ref 23), (1, .int (nI x)), (2, .int (nI 0)), (3, .int (nI 0))], [], S)) rfl ?_
  exact H 0 (Nat.zero_le _)

set_option maxHeartbeats 2000000 in
theorem c_namesakes (S : ST) (T : TD) (V : VS) (ls : Nat → Nat) (hT : TR 5 T S) (hto : tok T) (hC : CR 5 T V ls S) (hV : vk T V) (p so : Nat) (hp : p < 8) (hso : so ≤ 1) : EX me_V_namesakes 0 [.ref 23, .int (nI p), .int (nI so)] S (fun r u => r = some (.int (nI (cnt (fun k => decide (vnm V k = p ∧ (so = 1 → vis V k = 2))) (tnb T)))) ∧ u = S) := by
  refine EX.of mok_V_namesakes (Nat.le_of_ble_eq_true rfl) ?_
  obtain ⟨n8, n9, hbt, het, hht, hlo⟩ := id hto
  obtain ⟨t1, t2, t3, t4, t5, t6, t7, t8, t9, t10, t11⟩ := id hT
  obtain ⟨h24, h25, h26, h27, h28, h29, hsr, g9, g10, g11, htl⟩ := id hC
  obtain ⟨hh9, hv3, hb9, hfw, hfb⟩ := id hV
  have H : ∀ i, i ≤ tnb T → BX me_V_namesakes 0 none (fun r u => r = some (.int (nI (cnt (fun k => decide (vnm V k = p ∧ (so = 1 → vis V k = 2))) (tnb T)))) ∧ u = S) (5, [(0, .ref 23), (1, .int (nI p)), (2, .int (nI so)), (3, .int (nI (cnt (fun k => decide (vnm V k = p ∧ (so = 1 → vis V k = 2))) i))), (4, .int (nI i))], [], S) := by
    refine loop_up (P := fun i => BX me_V_namesakes 0 none (fun r u => r = some (.int (nI (cnt (fun k => decide (vnm V k = p ∧ (so = 1 → vis V k = 2))) (tnb T)))) ∧ u = S) (5, [(0, .ref 23), (1, .int (nI p)), (2, .int (nI so)), (3, .int (nI (cnt (fun k => decide (vnm V k = p ∧ (so = 1 → vis V k = 2))) i))), (4, .int (nI i))], [], S)) (tnb T) ?_ ?_
    · skip
      refine run_ok 2 (c' := (8, [(0, .ref 23), (1, .int (nI p)), (2, .int (nI so)), (3, .int (nI (cnt (fun k => decide (vnm V k = p ∧ (so = 1 → vis V k = 2))) (tnb T)))), (4, .int (nI (tnb T)))], [.ref 23, .int (nI (tnb T))], S)) rfl ?_
      refine x_gett (t := 5) rfl rfl htl ?_
      refine run_ok 1 (c' := (14, [(0, .ref 23), (1, .int (nI p)), (2, .int (nI so)), (3, .int (nI (cnt (fun k => decide (vnm V k = p ∧ (so = 1 → vis V k = 2))) (tnb T)))), (4, .int (nI (tnb T)))], [.int (S.1 5 6), .int (nI (tnb T))], S)) rfl ?_
      refine x_top (v' := nI (tnb T)) t9 ?_
      refine x_icmpN_ge 52 rfl rfl (by omega) (by omega) (fun h14 => ?_) (fun hn => absurd (Nat.le_refl _) hn)
      refine run_ok 1 (c' := (53, [(0, .ref 23), (1, .int (nI p)), (2, .int (nI so)), (3, .int (nI (cnt (fun k => decide (vnm V k = p ∧ (so = 1 → vis V k = 2))) (tnb T)))), (4, .int (nI (tnb T)))], [.int (nI (cnt (fun k => decide (vnm V k = p ∧ (so = 1 → vis V k = 2))) (tnb T)))], S)) rfl ?_
      exact x_ret (r := some (.int (nI (cnt (fun k => decide (vnm V k = p ∧ (so = 1 → vis V k = 2))) (tnb T))))) rfl rfl trivial ⟨rfl, rfl⟩ rfl
    · intro i hi ih
      have q1 := (hv3 i (by omega)).1
      have q2 := (hv3 i (by omega)).2.1
      have e25 : nmv (vnm V i) = nI p → vnm V i = p := (nmv_eqp q2 hp).mp
      refine run_ok 2 (c' := (8, [(0, .ref 23), (1, .int (nI p)), (2, .int (nI so)), (3, .int (nI (cnt (fun k => decide (vnm V k = p ∧ (so = 1 → vis V k = 2))) i))), (4, .int (nI i))], [.ref 23, .int (nI i)], S)) rfl ?_
      refine x_gett (t := 5) rfl rfl htl ?_
      refine run_ok 1 (c' := (14, [(0, .ref 23), (1, .int (nI p)), (2, .int (nI so)), (3, .int (nI (cnt (fun k => decide (vnm V k = p ∧ (so = 1 → vis V k = 2))) i))), (4, .int (nI i))], [.int (S.1 5 6), .int (nI i)], S)) rfl ?_
      refine x_top (v' := nI (tnb T)) t9 ?_
      refine x_icmpN_ge 52 rfl rfl (by omega) (by omega) (fun hn => absurd hn (show ¬ tnb T ≤ i by omega)) (fun h14 => ?_)
      refine run_ok 3 (c' := (23, [(0, .ref 23), (1, .int (nI p)), (2, .int (nI so)), (3, .int (nI (cnt (fun k => decide (vnm V k = p ∧ (so = 1 → vis V k = 2))) i))), (4, .int (nI i))], [.int (nI i), .ref 26], S)) rfl ?_
      refine x_iaN (nmv (vnm V i)) rfl rfl (by decide) (by omega) (h26 i (by omega)) ?_
      refine run_ok 1 (c' := (25, [(0, .ref 23), (1, .int (nI p)), (2, .int (nI so)), (3, .int (nI (cnt (fun k => decide (vnm V k = p ∧ (so = 1 → vis V k = 2))) i))), (4, .int (nI i))], [.int (nI p), .int (nmv (vnm V i))], S)) rfl ?_
      refine x_icmp_ne 46 rfl rfl (fun h25b => ?_) (fun h25b => ?_)
      · refine run_ok 1 (c' := (49, [(0, .ref 23), (1, .int (nI p)), (2, .int (nI so)), (3, .int (nI (cnt (fun k => decide (vnm V k = p ∧ (so = 1 → vis V k = 2))) i))), (4, .int (nI i + nI 1))], [], S)) rfl ?_
        rw [nI_add i 1]
        refine run_ok 1 (c' := (5, [(0, .ref 23), (1, .int (nI p)), (2, .int (nI so)), (3, .int (nI (cnt (fun k => decide (vnm V k = p ∧ (so = 1 → vis V k = 2))) i))), (4, .int (nI (i + 1)))], [], S)) rfl ?_
        rw [show cnt (fun k => decide (vnm V k = p ∧ (so = 1 → vis V k = 2))) (i + 1) = cnt (fun k => decide (vnm V k = p ∧ (so = 1 → vis V k = 2))) i from cnt_z (decide_eq_false (by first | exact fun z => h40 (z.2 (by omega)) | exact fun z => h25b (by rw [z.1, nmv_lt hp])))] at ih
        exact ih
      · refine run_ok 1 (c' := (29, [(0, .ref 23), (1, .int (nI p)), (2, .int (nI so)), (3, .int (nI (cnt (fun k => decide (vnm V k = p ∧ (so = 1 → vis V k = 2))) i))), (4, .int (nI i))], [.int (nI so)], S)) rfl ?_
        refine x_ifN_eq 43 rfl rfl (by omega) (fun h29 => ?_) (fun h29 => ?_)
        · refine run_ok 1 (c' := (46, [(0, .ref 23), (1, .int (nI p)), (2, .int (nI so)), (3, .int (nI (cnt (fun k => decide (vnm V k = p ∧ (so = 1 → vis V k = 2))) i) + nI 1)), (4, .int (nI i))], [], S)) rfl ?_
          rw [nI_add (cnt (fun k => decide (vnm V k = p ∧ (so = 1 → vis V k = 2))) i) 1]
          refine run_ok 1 (c' := (49, [(0, .ref 23), (1, .int (nI p)), (2, .int (nI so)), (3, .int (nI (cnt (fun k => decide (vnm V k = p ∧ (so = 1 → vis V k = 2))) i + 1))), (4, .int (nI i + nI 1))], [], S)) rfl ?_
          rw [nI_add i 1]
          refine run_ok 1 (c' := (5, [(0, .ref 23), (1, .int (nI p)), (2, .int (nI so)), (3, .int (nI (cnt (fun k => decide (vnm V k = p ∧ (so = 1 → vis V k = 2))) i + 1))), (4, .int (nI (i + 1)))], [], S)) rfl ?_
          rw [show cnt (fun k => decide (vnm V k = p ∧ (so = 1 → vis V k = 2))) (i + 1) = cnt (fun k => decide (vnm V k = p ∧ (so = 1 → vis V k = 2))) i + 1 from cnt_s (decide_eq_true (by first | exact ⟨e25 h25b, fun _ => h40⟩ | exact ⟨e25 h25b, fun z => absurd z (by omega)⟩))] at ih
          exact ih
        · refine run_ok 3 (c' := (38, [(0, .ref 23), (1, .int (nI p)), (2, .int (nI so)), (3, .int (nI (cnt (fun k => decide (vnm V k = p ∧ (so = 1 → vis V k = 2))) i))), (4, .int (nI i))], [.int (nI i), .ref 25], S)) rfl ?_
          refine x_iaN (nI (vis V i)) rfl rfl (by decide) (by omega) (h25 i (by omega)) ?_
          refine run_ok 1 (c' := (40, [(0, .ref 23), (1, .int (nI p)), (2, .int (nI so)), (3, .int (nI (cnt (fun k => decide (vnm V k = p ∧ (so = 1 → vis V k = 2))) i))), (4, .int (nI i))], [.int (nI 2), .int (nI (vis V i))], S)) rfl ?_
          refine x_icmpN_ne 46 rfl rfl (by omega) (by omega) (fun h40 => ?_) (fun h40 => ?_)
          · refine run_ok 1 (c' := (49, [(0, .ref 23), (1, .int (nI p)), (2, .int (nI so)), (3, .int (nI (cnt (fun k => decide (vnm V k = p ∧ (so = 1 → vis V k = 2))) i))), (4, .int (nI i + nI 1))], [], S)) rfl ?_
            rw [nI_add i 1]
            refine run_ok 1 (c' := (5, [(0, .ref 23), (1, .int (nI p)), (2, .int (nI so)), (3, .int (nI (cnt (fun k => decide (vnm V k = p ∧ (so = 1 → vis V k = 2))) i))), (4, .int (nI (i + 1)))], [], S)) rfl ?_
            rw [show cnt (fun k => decide (vnm V k = p ∧ (so = 1 → vis V k = 2))) (i + 1) = cnt (fun k => decide (vnm V k = p ∧ (so = 1 → vis V k = 2))) i from cnt_z (decide_eq_false (by first | exact fun z => h40 (z.2 (by omega)) | exact fun z => h25b (by rw [z.1, nmv_lt hp])))] at ih
            exact ih
          · refine run_ok 1 (c' := (46, [(0, .ref 23), (1, .int (nI p)), (2, .int (nI so)), (3, .int (nI (cnt (fun k => decide (vnm V k = p ∧ (so = 1 → vis V k = 2))) i) + nI 1)), (4, .int (nI i))], [], S)) rfl ?_
            rw [nI_add (cnt (fun k => decide (vnm V k = p ∧ (so = 1 → vis V k = 2))) i) 1]
            refine run_ok 1 (c' := (49, [(0, .ref 23), (1, .int (nI p)), (2, .int (nI so)), (3, .int (nI (cnt (fun k => decide (vnm V k = p ∧ (so = 1 → vis V k = 2))) i + 1))), (4, .int (nI i + nI 1))], [], S)) rfl ?_
            rw [nI_add i 1]
            refine run_ok 1 (c' := (5, [(0, .ref 23), (1, .int (nI p)), (2, .int (nI so)), (3, .int (nI (cnt (fun k => decide (vnm V k = p ∧ (so = 1 → vis V k = 2))) i + 1))), (4, .int (nI (i + 1)))], [], S)) rfl ?_
            rw [show cnt (fun k => decide (vnm V k = p ∧ (so = 1 → vis V k = 2))) (i + 1) = cnt (fun k => decide (vnm V k = p ∧ (so = 1 → vis V k = 2))) i + 1 from cnt_s (decide_eq_true (by first | exact ⟨e25 h25b, fun _ => h40⟩ | exact ⟨e25 h25b, fun z => absurd z (by omega)⟩))] at ih
            exact ih
  refine run_ok 4 (c' := (5, [(0, .ref 23), (1, .int (nI p)), (2, .int (nI so)), (3, .int (nI 0)), (4, .int (nI 0))], [], S)) rfl ?_
  exact H 0 (Nat.zero_le _)

set_option maxHeartbeats 2000000 in
theorem c_nameBehind5 (S : ST) (T : TD) (V : VS) (ls : Nat → Nat) (hT : TR 5 T S) (hto : tok T) (hC : CR 5 T V ls S) (hV : vk T V) (w k : Nat) (hk : k < tnb T) (hw : w < 24) : EX me_V_nameBehind 0 [.ref 23, .int (nI w), .int (nI k)] S (fun r u => r = some (.int (nI (nmb T V w k))) ∧ u = S) := by
  refine EX.of mok_V_nameBehind (Nat.le_of_ble_eq_true rfl) ?_
  obtain ⟨n8, n9, hbt, het, hht, hlo⟩ := id hto
  obtain ⟨t1, t2, t3, t4, t5, t6, t7, t8, t9, t10, t11⟩ := id hT
  obtain ⟨h24, h25, h26, h27, h28, h29, hsr, g9, g10, g11, htl⟩ := id hC
  obtain ⟨hh9, hv3, hb9, hfw, hfb⟩ := id hV
  have q2 := (hv3 k (by omega)).2.1
  have q3 := (hbt k hk).2.2.1
  refine run_ok 1 (c' := (1, [(0, .ref 23), (1, .int (nI w)), (2, .int (nI k))], [.ref 23], S)) rfl ?_
  refine x_gett (t := 5) rfl rfl htl ?_
  refine run_ok 2 (c' := (8, [(0, .ref 23), (1, .int (nI w)), (2, .int (nI k))], [.int (nI k), .ref 9], S)) rfl ?_
  refine x_iaN (nI (tla T k)) rfl rfl (by decide) (by omega) (t4 k (by omega)) ?_
  refine run_ok 1 (c' := (10, [(0, .ref 23), (1, .int (nI w)), (2, .int (nI k))], [.int (nI w), .int (nI (tla T k))], S)) rfl ?_
  refine x_icmpN_gt 27 rfl rfl (by omega) (by omega) (fun h10 => ?_) (fun h10 => ?_)
  · refine run_ok 2 (c' := (29, [(0, .ref 23), (1, .int (nI w)), (2, .int (nI k)), (3, .int (nI 0))], [], S)) rfl ?_
    refine run_ok 1 (c' := (30, [(0, .ref 23), (1, .int (nI w)), (2, .int (nI k)), (3, .int (nI 0))], [.int (nI 0)], S)) rfl ?_
    refine x_ifN_eq 42 rfl rfl (by omega) (fun h30 => ?_) (fun hn => absurd rfl hn)
    refine run_ok 1 (c' := (44, [(0, .ref 23), (1, .int (nI w)), (2, .int (nI k)), (3, .int (nI 0))], [.int (nI 8)], S)) rfl ?_
    exact x_ret (r := some (.int (nI 8))) rfl rfl trivial ⟨congrArg (fun z => some (Value.int (nI z))) (show nmb T V w k = 8 from if_neg (fun z => by first | exact absurd z.1 (by omega) | exact z.2 ((nmv_n1 q2).mp h20))).symm, rfl⟩ rfl
  · refine run_ok 3 (c' := (18, [(0, .ref 23), (1, .int (nI w)), (2, .int (nI k))], [.int (nI k), .ref 26], S)) rfl ?_
    refine x_iaN (nmv (vnm V k)) rfl rfl (by decide) (by omega) (h26 k (by omega)) ?_
    refine run_ok 1 (c' := (20, [(0, .ref 23), (1, .int (nI w)), (2, .int (nI k))], [.int (-1), .int (nmv (vnm V k))], S)) rfl ?_
    refine x_icmp_eq 27 rfl rfl (fun h20 => ?_) (fun h20 => ?_)
    · refine run_ok 2 (c' := (29, [(0, .ref 23), (1, .int (nI w)), (2, .int (nI k)), (3, .int (nI 0))], [], S)) rfl ?_
      refine run_ok 1 (c' := (30, [(0, .ref 23), (1, .int (nI w)), (2, .int (nI k)), (3, .int (nI 0))], [.int (nI 0)], S)) rfl ?_
      refine x_ifN_eq 42 rfl rfl (by omega) (fun h30 => ?_) (fun hn => absurd rfl hn)
      refine run_ok 1 (c' := (44, [(0, .ref 23), (1, .int (nI w)), (2, .int (nI k)), (3, .int (nI 0))], [.int (nI 8)], S)) rfl ?_
      exact x_ret (r := some (.int (nI 8))) rfl rfl trivial ⟨congrArg (fun z => some (Value.int (nI z))) (show nmb T V w k = 8 from if_neg (fun z => by first | exact absurd z.1 (by omega) | exact z.2 ((nmv_n1 q2).mp h20))).symm, rfl⟩ rfl
    · have e8 : vnm V k ≠ 8 := fun z => h20 ((nmv_n1 q2).mpr z)
      refine run_ok 3 (c' := (29, [(0, .ref 23), (1, .int (nI w)), (2, .int (nI k)), (3, .int (nI 1))], [], S)) rfl ?_
      refine run_ok 1 (c' := (30, [(0, .ref 23), (1, .int (nI w)), (2, .int (nI k)), (3, .int (nI 1))], [.int (nI 1)], S)) rfl ?_
      refine x_ifN_eq 42 rfl rfl (by omega) (fun hn => absurd hn (by omega)) (fun h30 => ?_)
      refine run_ok 3 (c' := (38, [(0, .ref 23), (1, .int (nI w)), (2, .int (nI k)), (3, .int (nI 1))], [.int (nI k), .ref 26], S)) rfl ?_
      refine x_iaN (nmv (vnm V k)) rfl rfl (by decide) (by omega) (h26 k (by omega)) ?_
      refine run_ok 1 (c' := (44, [(0, .ref 23), (1, .int (nI w)), (2, .int (nI k)), (3, .int (nI 1))], [.int (nmv (vnm V k))], S)) rfl ?_
      exact x_ret (r := some (.int (nmv (vnm V k)))) rfl rfl trivial ⟨congrArg (fun z => some (Value.int z)) (by rw [show nmb T V w k = vnm V k from if_pos ⟨by omega, e8⟩]; exact nmv_lt (by omega)), rfl⟩ rfl

set_option maxHeartbeats 2000000 in
theorem c_nameBehind14 (S : ST) (T : TD) (V : VS) (ls : Nat → Nat) (hT : TR 14 T S) (hto : tok T) (hC : CR 14 T V ls S) (hV : vk T V) (w k : Nat) (hk : k < tnb T) (hw : w < 24) : EX me_V_nameBehind 0 [.ref 23, .int (nI w), .int (nI k)] S (fun r u => r = some (.int (nI (nmb T V w k))) ∧ u = S) := by
  refine EX.of mok_V_nameBehind (Nat.le_of_ble_eq_true rfl) ?_
  obtain ⟨n8, n9, hbt, het, hht, hlo⟩ := id hto
  obtain ⟨t1, t2, t3, t4, t5, t6, t7, t8, t9, t10, t11⟩ := id hT
  obtain ⟨h24, h25, h26, h27, h28, h29, hsr, g9, g10, g11, htl⟩ := id hC
  obtain ⟨hh9, hv3, hb9, hfw, hfb⟩ := id hV
  have q2 := (hv3 k (by omega)).2.1
  have q3 := (hbt k hk).2.2.1
  refine run_ok 1 (c' := (1, [(0, .ref 23), (1, .int (nI w)), (2, .int (nI k))], [.ref 23], S)) rfl ?_
  refine x_gett (t := 14) rfl rfl htl ?_
  refine run_ok 2 (c' := (8, [(0, .ref 23), (1, .int (nI w)), (2, .int (nI k))], [.int (nI k), .ref 18], S)) rfl ?_
  refine x_iaN (nI (tla T k)) rfl rfl (by decide) (by omega) (t4 k (by omega)) ?_
  refine run_ok 1 (c' := (10, [(0, .ref 23), (1, .int (nI w)), (2, .int (nI k))], [.int (nI w), .int (nI (tla T k))], S)) rfl ?_
  refine x_icmpN_gt 27 rfl rfl (by omega) (by omega) (fun h10 => ?_) (fun h10 => ?_)
  · refine run_ok 2 (c' := (29, [(0, .ref 23), (1, .int (nI w)), (2, .int (nI k)), (3, .int (nI 0))], [], S)) rfl ?_
    refine run_ok 1 (c' := (30, [(0, .ref 23), (1, .int (nI w)), (2, .int (nI k)), (3, .int (nI 0))], [.int (nI 0)], S)) rfl ?_
    refine x_ifN_eq 42 rfl rfl (by omega) (fun h30 => ?_) (fun hn => absurd rfl hn)
    refine run_ok 1 (c' := (44, [(0, .ref 23), (1, .int (nI w)), (2, .int (nI k)), (3, .int (nI 0))], [.int (nI 8)], S)) rfl ?_
    exact x_ret (r := some (.int (nI 8))) rfl rfl trivial ⟨congrArg (fun z => some (Value.int (nI z))) (show nmb T V w k = 8 from if_neg (fun z => by first | exact absurd z.1 (by omega) | exact z.2 ((nmv_n1 q2).mp h20))).symm, rfl⟩ rfl
  · refine run_ok 3 (c' := (18, [(0, .ref 23), (1, .int (nI w)), (2, .int (nI k))], [.int (nI k), .ref 26], S)) rfl ?_
    refine x_iaN (nmv (vnm V k)) rfl rfl (by decide) (by omega) (h26 k (by omega)) ?_
    refine run_ok 1 (c' := (20, [(0, .ref 23), (1, .int (nI w)), (2, .int (nI k))], [.int (-1), .int (nmv (vnm V k))], S)) rfl ?_
    refine x_icmp_eq 27 rfl rfl (fun h20 => ?_) (fun h20 => ?_)
    · refine run_ok 2 (c' := (29, [(0, .ref 23), (1, .int (nI w)), (2, .int (nI k)), (3, .int (nI 0))], [], S)) rfl ?_
      refine run_ok 1 (c' := (30, [(0, .ref 23), (1, .int (nI w)), (2, .int (nI k)), (3, .int (nI 0))], [.int (nI 0)], S)) rfl ?_
      refine x_ifN_eq 42 rfl rfl (by omega) (fun h30 => ?_) (fun hn => absurd rfl hn)
      refine run_ok 1 (c' := (44, [(0, .ref 23), (1, .int (nI w)), (2, .int (nI k)), (3, .int (nI 0))], [.int (nI 8)], S)) rfl ?_
      exact x_ret (r := some (.int (nI 8))) rfl rfl trivial ⟨congrArg (fun z => some (Value.int (nI z))) (show nmb T V w k = 8 from if_neg (fun z => by first | exact absurd z.1 (by omega) | exact z.2 ((nmv_n1 q2).mp h20))).symm, rfl⟩ rfl
    · have e8 : vnm V k ≠ 8 := fun z => h20 ((nmv_n1 q2).mpr z)
      refine run_ok 3 (c' := (29, [(0, .ref 23), (1, .int (nI w)), (2, .int (nI k)), (3, .int (nI 1))], [], S)) rfl ?_
      refine run_ok 1 (c' := (30, [(0, .ref 23), (1, .int (nI w)), (2, .int (nI k)), (3, .int (nI 1))], [.int (nI 1)], S)) rfl ?_
      refine x_ifN_eq 42 rfl rfl (by omega) (fun hn => absurd hn (by omega)) (fun h30 => ?_)
      refine run_ok 3 (c' := (38, [(0, .ref 23), (1, .int (nI w)), (2, .int (nI k)), (3, .int (nI 1))], [.int (nI k), .ref 26], S)) rfl ?_
      refine x_iaN (nmv (vnm V k)) rfl rfl (by decide) (by omega) (h26 k (by omega)) ?_
      refine run_ok 1 (c' := (44, [(0, .ref 23), (1, .int (nI w)), (2, .int (nI k)), (3, .int (nI 1))], [.int (nmv (vnm V k))], S)) rfl ?_
      exact x_ret (r := some (.int (nmv (vnm V k)))) rfl rfl trivial ⟨congrArg (fun z => some (Value.int z)) (by rw [show nmb T V w k = vnm V k from if_pos ⟨by omega, e8⟩]; exact nmv_lt (by omega)), rfl⟩ rfl


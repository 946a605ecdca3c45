/-! the model: chances, decades -/
theorem gcd_hlv (s : Nat) : ∀ n h, Nat.gcd (s / 2 ^ h) (2 ^ n) * 2 ^ h = 2 ^ hlv s n h := by
  intro n
  induction n with
  | zero => intro h; show Nat.gcd _ 1 * _ = _; rw [Nat.gcd_one_right, Nat.one_mul]; rfl
  | succ n ih =>
    intro h
    unfold hlv
    by_cases e : s / 2 ^ h % 2 = 0
    · rw [if_pos e, ← ih (h + 1)]
      have a : s / 2 ^ h = 2 * (s / 2 ^ (h + 1)) := by
        rw [Nat.pow_succ, ← Nat.div_div_eq_div_mul]
        omega
      rw [a, Nat.pow_succ 2 n, Nat.mul_comm (2 ^ n) 2, Nat.gcd_mul_left, Nat.pow_succ 2 h, Nat.mul_comm 2 (Nat.gcd _ _), Nat.mul_assoc, Nat.mul_comm 2 (2 ^ h)]
    · rw [if_neg e]
      have c : Nat.Coprime (s / 2 ^ h) 2 := by
        show Nat.gcd _ 2 = 1
        rw [Nat.gcd_comm, Nat.gcd_rec, show s / 2 ^ h % 2 = 1 by omega]
        decide
      have d : Nat.gcd (s / 2 ^ h) (2 ^ (n + 1)) = 1 := Nat.Coprime.pow_right (n + 1) c
      rw [d, Nat.one_mul]
theorem gcd_hl (s n : Nat) : Nat.gcd s (2 ^ n) = 2 ^ hlv s n 0 := by
  have := gcd_hlv s n 0
  rwa [Nat.pow_zero, Nat.mul_one, Nat.div_one] at this
theorem hlv_div (s n : Nat) : 2 ^ n / 2 ^ hlv s n 0 = 2 ^ (n - hlv s n 0) := Nat.pow_div (by have := (hlv_le s n 0).2; omega) (by decide)
theorem m_no2 (S : ST) : EX me_R_no 0 [.int (-2)] S (fun r u => r = some (.long (-9223372036854775806)) ∧ u = S) := by
  refine EX.of mok_R_no (Nat.le_of_ble_eq_true rfl) ?_
  refine run_ok 4 (c' := (6, [(0, .int (-2 : Int32))], [.long ((-9223372036854775808) - ((-2 : Int32).toInt64))], S)) rfl ?_
  exact x_ret (r := some (.long ((-9223372036854775808) - ((-2 : Int32).toInt64)))) rfl rfl trivial ⟨congrArg (fun z => some (Value.long z)) (by decide), rfl⟩ rfl

set_option maxHeartbeats 2000000 in
theorem m_lowest0 (S : ST) (a b : Nat) (ha : a < 2 ^ 62) (hb : b < 2 ^ 62) (hb0 : 0 < b) : EX me_R_lowest 0 [.long (lN a), .long (lN b), .int (nI 0)] S (fun r u => r = some (.long (lN (a / Nat.gcd a b))) ∧ u = S) := by
  refine EX.of mok_R_lowest (Nat.le_of_ble_eq_true rfl) ?_
  have H : ∀ y x, x < 2 ^ 62 → y < 2 ^ 62 → Nat.gcd x y = Nat.gcd a b → BX me_R_lowest 0 none (fun r u => r = some (.long (lN (a / Nat.gcd a b))) ∧ u = S) (6, [(0, .long (lN a)), (2, .long (lN b)), (4, .int (nI 0)), (5, .long (lN x)), (7, .long (lN y))], [], S) := by
    intro y
    induction y using Nat.strongRecOn with
    | ind y ih =>
      intro x hx hy hg
      refine run_ok 3 (c' := (10, [(0, .long (lN a)), (2, .long (lN b)), (4, .int (nI 0)), (5, .long (lN x)), (7, .long (lN y))], [.int (lg_cmp (lN y) 0)], S)) rfl ?_
      refine x_if_eq 31 rfl rfl (fun h10 => ?_) (fun h10 => ?_)
      · have hy0 : y = 0 := (lg_eq0 (by omega)).mp h10
        have hxg : x = Nat.gcd a b := by rw [← hg, hy0, Nat.gcd_zero_right]
        have hx0 : 0 < x := by rw [hxg]; exact Nat.gcd_pos_of_pos_right _ hb0
        refine run_ok 1 (c' := (33, [(0, .long (lN a)), (2, .long (lN b)), (4, .int (nI 0)), (5, .long (lN x)), (7, .long (lN y))], [.int (nI 0)], S)) rfl ?_
        refine x_ifN_ne 43 rfl rfl (by omega) (fun hn => absurd hn (by decide)) (fun _ => ?_)
        refine run_ok 2 (c' := (39, [(0, .long (lN a)), (2, .long (lN b)), (4, .int (nI 0)), (5, .long (lN x)), (7, .long (lN y))], [.long (lN x), .long (lN a)], S)) rfl ?_
        refine x_ldiv rfl (fun z => absurd ((lN_0 (by omega)).mp z) (by omega)) ?_
        refine x_topl (v' := lN (a / x)) (pk_lDiv (by omega) (by omega) (by omega)) ?_
        refine run_ok 1 (c' := (47, [(0, .long (lN a)), (2, .long (lN b)), (4, .int (nI 0)), (5, .long (lN x)), (7, .long (lN y))], [.long (lN (a / x))], S)) rfl ?_
        exact x_ret (r := some (.long (lN (a / x)))) rfl rfl trivial ⟨by rw [hxg], rfl⟩ rfl
      · have hy0 : ¬ y = 0 := fun z => h10 ((lg_eq0 (by omega)).mpr z)
        refine run_ok 2 (c' := (17, [(0, .long (lN a)), (2, .long (lN b)), (4, .int (nI 0)), (5, .long (lN x)), (7, .long (lN y))], [.long (lN y), .long (lN x)], S)) rfl ?_
        refine x_lrem rfl (fun z => hy0 ((lN_0 (by omega)).mp z)) ?_
        refine x_topl (v' := lN (x % y)) (pk_lRem (by omega) (by omega) (by omega)) ?_
        refine run_ok 6 (c' := (6, [(0, .long (lN a)), (2, .long (lN b)), (4, .int (nI 0)), (5, .long (lN y)), (7, .long (lN (x % y))), (9, .long (lN (x % y)))], [], S)) rfl ?_
        refine x_less [0, 1, 2, 3, 4] rfl ?_
        exact ih (x % y) (Nat.mod_lt _ (by omega)) y hy (Nat.lt_trans (Nat.mod_lt _ (by omega)) hy) (by rw [Nat.gcd_comm, ← Nat.gcd_rec, Nat.gcd_comm]; exact hg)
  refine run_ok 4 (c' := (6, [(0, .long (lN a)), (2, .long (lN b)), (4, .int (nI 0)), (5, .long (lN a)), (7, .long (lN b))], [], S)) rfl ?_
  exact H b a ha hb rfl

set_option maxHeartbeats 2000000 in
theorem m_lowest1 (S : ST) (a b : Nat) (ha : a < 2 ^ 62) (hb : b < 2 ^ 62) (hb0 : 0 < b) : EX me_R_lowest 0 [.long (lN a), .long (lN b), .int (nI 1)] S (fun r u => r = some (.long (lN (b / Nat.gcd a b))) ∧ u = S) := by
  refine EX.of mok_R_lowest (Nat.le_of_ble_eq_true rfl) ?_
  have H : ∀ y x, x < 2 ^ 62 → y < 2 ^ 62 → Nat.gcd x y = Nat.gcd a b → BX me_R_lowest 0 none (fun r u => r = some (.long (lN (b / Nat.gcd a b))) ∧ u = S) (6, [(0, .long (lN a)), (2, .long (lN b)), (4, .int (nI 1)), (5, .long (lN x)), (7, .long (lN y))], [], S) := by
    intro y
    induction y using Nat.strongRecOn with
    | ind y ih =>
      intro x hx hy hg
      refine run_ok 3 (c' := (10, [(0, .long (lN a)), (2, .long (lN b)), (4, .int (nI 1)), (5, .long (lN x)), (7, .long (lN y))], [.int (lg_cmp (lN y) 0)], S)) rfl ?_
      refine x_if_eq 31 rfl rfl (fun h10 => ?_) (fun h10 => ?_)
      · have hy0 : y = 0 := (lg_eq0 (by omega)).mp h10
        have hxg : x = Nat.gcd a b := by rw [← hg, hy0, Nat.gcd_zero_right]
        have hx0 : 0 < x := by rw [hxg]; exact Nat.gcd_pos_of_pos_right _ hb0
        refine run_ok 1 (c' := (33, [(0, .long (lN a)), (2, .long (lN b)), (4, .int (nI 1)), (5, .long (lN x)), (7, .long (lN y))], [.int (nI 1)], S)) rfl ?_
        refine x_ifN_ne 43 rfl rfl (by omega) (fun _ => ?_) (fun hn => absurd hn (by decide))
        refine run_ok 2 (c' := (46, [(0, .long (lN a)), (2, .long (lN b)), (4, .int (nI 1)), (5, .long (lN x)), (7, .long (lN y))], [.long (lN x), .long (lN b)], S)) rfl ?_
        refine x_ldiv rfl (fun z => absurd ((lN_0 (by omega)).mp z) (by omega)) ?_
        refine x_topl (v' := lN (b / x)) (pk_lDiv (by omega) (by omega) (by omega)) ?_
        exact x_ret (r := some (.long (lN (b / x)))) rfl rfl trivial ⟨by rw [hxg], rfl⟩ rfl
      · have hy0 : ¬ y = 0 := fun z => h10 ((lg_eq0 (by omega)).mpr z)
        refine run_ok 2 (c' := (17, [(0, .long (lN a)), (2, .long (lN b)), (4, .int (nI 1)), (5, .long (lN x)), (7, .long (lN y))], [.long (lN y), .long (lN x)], S)) rfl ?_
        refine x_lrem rfl (fun z => hy0 ((lN_0 (by omega)).mp z)) ?_
        refine x_topl (v' := lN (x % y)) (pk_lRem (by omega) (by omega) (by omega)) ?_
        refine run_ok 6 (c' := (6, [(0, .long (lN a)), (2, .long (lN b)), (4, .int (nI 1)), (5, .long (lN y)), (7, .long (lN (x % y))), (9, .long (lN (x % y)))], [], S)) rfl ?_
        refine x_less [0, 1, 2, 3, 4] rfl ?_
        exact ih (x % y) (Nat.mod_lt _ (by omega)) y hy (Nat.lt_trans (Nat.mod_lt _ (by omega)) hy) (by rw [Nat.gcd_comm, ← Nat.gcd_rec, Nat.gcd_comm]; exact hg)
  refine run_ok 4 (c' := (6, [(0, .long (lN a)), (2, .long (lN b)), (4, .int (nI 1)), (5, .long (lN a)), (7, .long (lN b))], [], S)) rfl ?_
  exact H b a ha hb rfl

/-- the boats' figures, as told, in the model -/
def BT (T : TD) (u : ST) : Prop := rh u 53 (tnb T) (tso T) ∧ rh u 54 (tnb T) (tbu T) ∧ rh u 55 (tnb T) (tla T) ∧ rh u 56 (tnb T) (tst T) ∧ u.1 48 5 = nI (tnb T)
theorem MT.bt {T : TD} {l : Nat} {u : ST} (h : MT (wlo T l) u) : BT T u := ⟨h.2.1, h.2.2.1, h.2.2.2.1, h.2.2.2.2.1, h.2.2.2.2.2.2.2.2.1⟩
set_option maxHeartbeats 2000000 in
theorem m_chanceOf0 (S : ST) (T : TD) (n : Nat) (b : Nat → Nat) (n' : Nat) (b' : Nat → Nat) (hL : ML T n b n' b' S) (hto : tok T) (c k : Nat) (hc : c ≤ 16) (hk : k < tnb T) : EX me_R_chanceOf 7 [.ref 48, .int (nI c), .int (nI k), .int (nI 0)] S (fun r u => r = some (.long (lN (chs T c k (2 ^ tne T) / 2 ^ hlv (chs T c k (2 ^ tne T)) (4 * tne T) 0))) ∧ BT T u ∧ QM S u) := by
  refine EX.of mok_R_chanceOf (Nat.le_of_ble_eq_true rfl) ?_
  have n8 := hto.1
  have ne8 := hL.2.2.2.2.2.2.2.2.2.1
  have p8 : 2 ^ tne T ≤ 2 ^ 8 := Nat.pow_le_pow_right (by decide) ne8
  have p9 := chs_le T hc k ne8 (2 ^ tne T)
  have p10 : 2 ^ (4 * tne T) ≤ 2 ^ 32 := Nat.pow_le_pow_right (by decide) (by omega)
  refine run_ok 1 (c' := (1, [(0, .ref 48), (1, .int (nI c)), (2, .int (nI k)), (3, .int (nI 0))], [.ref 48], S)) rfl ?_
  refine x_callV [] rfl cv_R_asTold.1 lk_7_220 cv_R_asTold.2.1 cv_R_asTold.2.2.1 rfl cv_R_asTold.2.2.2.1 rfl rfl (Nat.le_of_ble_eq_true rfl) (by decide) cv_R_asTold.2.2.2.2 (m_asTold S T n b n' b' (hL.stay QM.rf) hto) ?_
  rintro r u1 ⟨hr, hTu1, hRu1, hqu1⟩
  rw [hr]
  clear hr r
  have hQu1 : QM S u1 := QM.rf.tr hqu1
  obtain ⟨t1, t2, t3, t4, t5, t6, t7, t8, t9, t10, t11⟩ := id hTu1
  refine run_ok 4 (c' := (10, [(0, .ref 48), (1, .int (nI c)), (2, .int (nI k)), (3, .int (nI 0)), (4, .long 0), (6, .int (nI 0))], [], u1)) rfl ?_
  refine loop_up (P := fun i => ∀ v : ST, (∃ l, MT (wlo T l) v) → QM S v → BX me_R_chanceOf 7 none (fun r u => r = some (.long (lN (chs T c k (2 ^ tne T) / 2 ^ hlv (chs T c k (2 ^ tne T)) (4 * tne T) 0))) ∧ BT T u ∧ QM S u) (10, [(0, .ref 48), (1, .int (nI c)), (2, .int (nI k)), (3, .int (nI 0)), (4, .long (lN (chs T c k i))), (6, .int (nI i))], [], v)) (2 ^ tne T) ?_ ?_ 0 (Nat.zero_le _) _ ⟨tlo T, hTu1⟩ hQu1
  · intro v hI hQv
    have f10 := (hL.stay hQv).2.2.2.2.2.2.2.2.1
    refine run_ok 4 (c' := (17, [(0, .ref 48), (1, .int (nI c)), (2, .int (nI k)), (3, .int (nI 0)), (4, .long (lN (chs T c k (2 ^ tne T)))), (6, .int (nI (2 ^ tne T)))], [.int (v.1 48 10), .int (nI 1), .int (nI (2 ^ tne T))], v)) rfl ?_
    refine x_top (v' := nI (tne T)) f10 ?_
    refine run_ok 1 (c' := (18, [(0, .ref 48), (1, .int (nI c)), (2, .int (nI k)), (3, .int (nI 0)), (4, .long (lN (chs T c k (2 ^ tne T)))), (6, .int (nI (2 ^ tne T)))], [.int ((nI 1) <<< ((nI (tne T)) &&& 31)), .int (nI (2 ^ tne T))], v)) rfl ?_
    refine x_top (v' := nI (2 ^ tne T)) (sh1 (by omega)) ?_
    refine x_icmpN_ge 111 rfl rfl (by omega) (by omega) (fun h18 => ?_) (fun hn => absurd (Nat.le_refl _) hn)
    refine run_ok 5 (c' := (119, [(0, .ref 48), (1, .int (nI c)), (2, .int (nI k)), (3, .int (nI 0)), (4, .long (lN (chs T c k (2 ^ tne T)))), (6, .int (nI (2 ^ tne T)))], [.int (v.1 48 10), .int (nI 4), .long 1, .long (lN (chs T c k (2 ^ tne T)))], v)) rfl ?_
    refine x_top (v' := nI (tne T)) f10 ?_
    refine run_ok 1 (c' := (120, [(0, .ref 48), (1, .int (nI c)), (2, .int (nI k)), (3, .int (nI 0)), (4, .long (lN (chs T c k (2 ^ tne T)))), (6, .int (nI (2 ^ tne T)))], [.int ((nI 4) * (nI (tne T))), .long 1, .long (lN (chs T c k (2 ^ tne T)))], v)) rfl ?_
    refine x_top (v' := nI (4 * (tne T))) (pk_mul _ _) ?_
    refine run_ok 1 (c' := (121, [(0, .ref 48), (1, .int (nI c)), (2, .int (nI k)), (3, .int (nI 0)), (4, .long (lN (chs T c k (2 ^ tne T)))), (6, .int (nI (2 ^ tne T)))], [.long (1 <<< ((nI (4 * (tne T))).toInt64 &&& 63)), .long (lN (chs T c k (2 ^ tne T)))], v)) rfl ?_
    refine x_topl (v' := lN (2 ^ (4 * tne T))) (by rw [show (1 : Int64) = lN 1 from rfl, wb_shl 1 (by omega), Nat.one_mul]) ?_
    refine run_ok 1 (c' := (122, [(0, .ref 48), (1, .int (nI c)), (2, .int (nI k)), (3, .int (nI 0)), (4, .long (lN (chs T c k (2 ^ tne T)))), (6, .int (nI (2 ^ tne T)))], [.int (nI 0), .long (lN (2 ^ (4 * tne T))), .long (lN (chs T c k (2 ^ tne T)))], v)) rfl ?_
    refine x_callS [.long (lN (chs T c k (2 ^ tne T))), .long (lN (2 ^ (4 * tne T))), .int (nI 0)] rfl cs_R_lowest.1 lk_7_306 cs_R_lowest.2.1 rfl rfl (Nat.le_of_ble_eq_true rfl) (by decide) cs_R_lowest.2.2 (m_lowest0 v (chs T c k (2 ^ tne T)) (2 ^ (4 * tne T)) (by omega) (by omega) (Nat.pos_of_ne_zero (by simp))) ?_
    rintro r z ⟨hr, hu⟩
    rw [hr, hu]
    clear hr hu r z
    exact x_ret (r := some (.long (lN (chs T c k (2 ^ tne T) / Nat.gcd (chs T c k (2 ^ tne T)) (2 ^ (4 * tne T)))))) rfl rfl trivial ⟨by rw [gcd_hl], hI.elim (fun _ h => h.bt), hQv⟩ rfl
  · intro i hi ih v hI hQv
    have f10 := (hL.stay hQv).2.2.2.2.2.2.2.2.1
    obtain ⟨l, hTl⟩ := hI
    refine run_ok 4 (c' := (17, [(0, .ref 48), (1, .int (nI c)), (2, .int (nI k)), (3, .int (nI 0)), (4, .long (lN (chs T c k i))), (6, .int (nI i))], [.int (v.1 48 10), .int (nI 1), .int (nI i)], v)) rfl ?_
    refine x_top (v' := nI (tne T)) f10 ?_
    refine run_ok 1 (c' := (18, [(0, .ref 48), (1, .int (nI c)), (2, .int (nI k)), (3, .int (nI 0)), (4, .long (lN (chs T c k i))), (6, .int (nI i))], [.int ((nI 1) <<< ((nI (tne T)) &&& 31)), .int (nI i)], v)) rfl ?_
    refine x_top (v' := nI (2 ^ tne T)) (sh1 (by omega)) ?_
    refine x_icmpN_ge 111 rfl rfl (by omega) (by omega) (fun hn => absurd hn (show ¬ 2 ^ tne T ≤ i by omega)) (fun h18 => ?_)
    refine run_ok 4 (c' := (27, [(0, .ref 48), (1, .int (nI c)), (2, .int (nI k)), (3, .int (nI 0)), (4, .long (lN (chs T c k i))), (6, .int (nI i)), (7, .long 1), (9, .int (nI 0))], [], v)) rfl ?_
    refine loop_up (P := fun j => BX me_R_chanceOf 7 none (fun r u => r = some (.long (lN (chs T c k (2 ^ tne T) / 2 ^ hlv (chs T c k (2 ^ tne T)) (4 * tne T) 0))) ∧ BT T u ∧ QM S u) (27, [(0, .ref 48), (1, .int (nI c)), (2, .int (nI k)), (3, .int (nI 0)), (4, .long (lN (chs T c k i))), (6, .int (nI i)), (7, .long (lN (wgt (wlo T i) c j))), (9, .int (nI j))], [], v)) (tne T) ?_ ?_ 0 (by omega)
    · skip
      refine run_ok 3 (c' := (33, [(0, .ref 48), (1, .int (nI c)), (2, .int (nI k)), (3, .int (nI 0)), (4, .long (lN (chs T c k i))), (6, .int (nI i)), (7, .long (lN (wgt (wlo T i) c (tne T)))), (9, .int (nI (tne T)))], [.int (v.1 48 10), .int (nI (tne T))], v)) rfl ?_
      refine x_top (v' := nI (tne T)) f10 ?_
      refine x_icmpN_ge 67 rfl rfl (by omega) (by omega) (fun h33 => ?_) (fun hn => absurd (Nat.le_refl _) hn)
      have w1 := wgt_le (wlo T i) hc (tne T)
      have w2 : 16 ^ tne T ≤ 16 ^ 8 := Nat.pow_le_pow_right (by decide) ne8
      refine run_ok 3 (c' := (71, [(0, .ref 48), (1, .int (nI c)), (2, .int (nI k)), (3, .int (nI 0)), (4, .long (lN (chs T c k i))), (6, .int (nI i)), (7, .long (lN (wgt (wlo T i) c (tne T)))), (9, .int (nI (tne T)))], [.int (lg_cmp (lN (wgt (wlo T i) c (tne T))) 0)], v)) rfl ?_
      refine x_if_le 105 rfl rfl (fun h71 => ?_) (fun h71 => ?_)
      · refine run_ok 1 (c' := (108, [(0, .ref 48), (1, .int (nI c)), (2, .int (nI k)), (3, .int (nI 0)), (4, .long (lN (chs T c k i))), (6, .int (nI i + nI 1)), (7, .long (lN (wgt (wlo T i) c (tne T)))), (9, .int (nI (tne T)))], [], v)) rfl ?_
        rw [nI_add i 1]
        refine run_ok 1 (c' := (10, [(0, .ref 48), (1, .int (nI c)), (2, .int (nI k)), (3, .int (nI 0)), (4, .long (lN (chs T c k i))), (6, .int (nI (i + 1))), (7, .long (lN (wgt (wlo T i) c (tne T)))), (9, .int (nI (tne T)))], [], v)) rfl ?_
        refine x_less [0, 1, 2, 3, 4, 5] rfl ?_
        rw [show chs T c k (i + 1) = chs T c k i from by show chs T c k i + _ = _; rw [(lg_le0 (by omega)).mp h71, ite_self, Nat.add_zero]] at ih
        exact ih v ⟨l, hTl⟩ hQv
      · refine run_ok 4 (c' := (81, [(0, .ref 48), (1, .int (nI c)), (2, .int (nI k)), (3, .int (nI 0)), (4, .long (lN (chs T c k i))), (6, .int (nI i)), (7, .long (lN (wgt (wlo T i) c (tne T)))), (9, .int (nI (tne T)))], [.ref 48], (pt v 48 18 (nI i)))) rfl ?_
        refine x_callV [] rfl cv_R_runs.1 lk_7_223 cv_R_runs.2.1 cv_R_runs.2.2.1 rfl cv_R_runs.2.2.2.1 rfl rfl (Nat.le_of_ble_eq_true rfl) (by decide) cv_R_runs.2.2.2.2 (m_runs (pt v 48 18 (nI i)) (wlo T i) (MT_lo hTl) (tok_wlo hto (by omega))) ?_
        rintro r u2 ⟨hr, hMu2, hCu2, hTu2, hfu2, h8u2, h2u2⟩
        rw [hr]
        clear hr r
        have hQu2 : QM S u2 := (hQv.fld (by decide)).tr (QM.of hfu2 h8u2 h2u2 (by decide) (by decide))
        obtain ⟨m1, m2, m3, m4, m5, m6, m7⟩ := id hMu2
        have hk2 : k < tnb (wlo T i) := hk
        have v3 := ((vk_vo (tok_wlo hto (show i < 512 by omega)) 24 (by omega)).1.2.1 k (by omega)).1
        refine run_ok 4 (c' := (91, [(0, .ref 48), (1, .int (nI c)), (2, .int (nI k)), (3, .int (nI 0)), (4, .long (lN (chs T c k i))), (6, .int (nI i)), (7, .long (lN (wgt (wlo T i) c (tne T)))), (9, .int (nI (tne T)))], [.int (nI k), .ref 64, .long (lN (chs T c k i))], u2)) rfl ?_
        refine x_iaN (nI (vis (vo (wlo T i) 24) k)) rfl rfl (by decide) (by omega) (m2 k (by omega)) ?_
        refine run_ok 1 (c' := (93, [(0, .ref 48), (1, .int (nI c)), (2, .int (nI k)), (3, .int (nI 0)), (4, .long (lN (chs T c k i))), (6, .int (nI i)), (7, .long (lN (wgt (wlo T i) c (tne T)))), (9, .int (nI (tne T)))], [.int (nI 2), .int (nI (vis (vo (wlo T i) 24) k)), .long (lN (chs T c k i))], u2)) rfl ?_
        refine x_icmpN_ne 101 rfl rfl (by omega) (by omega) (fun h93 => ?_) (fun h93 => ?_)
        · refine run_ok 2 (c' := (103, [(0, .ref 48), (1, .int (nI c)), (2, .int (nI k)), (3, .int (nI 0)), (4, .long (lN (chs T c k i))), (6, .int (nI i)), (7, .long (lN (wgt (wlo T i) c (tne T)))), (9, .int (nI (tne T)))], [.long ((lN (chs T c k i)) + 0)], u2)) rfl ?_
          refine x_topl (v' := lN (chs T c k i)) (Int64.add_zero _) ?_
          refine run_ok 2 (c' := (108, [(0, .ref 48), (1, .int (nI c)), (2, .int (nI k)), (3, .int (nI 0)), (4, .long (lN (chs T c k i))), (6, .int (nI i + nI 1)), (7, .long (lN (wgt (wlo T i) c (tne T)))), (9, .int (nI (tne T)))], [], u2)) rfl ?_
          rw [nI_add i 1]
          refine run_ok 1 (c' := (10, [(0, .ref 48), (1, .int (nI c)), (2, .int (nI k)), (3, .int (nI 0)), (4, .long (lN (chs T c k i))), (6, .int (nI (i + 1))), (7, .long (lN (wgt (wlo T i) c (tne T)))), (9, .int (nI (tne T)))], [], u2)) rfl ?_
          refine x_less [0, 1, 2, 3, 4, 5] rfl ?_
          rw [show chs T c k (i + 1) = chs T c k i from congrArg (chs T c k i + ·) (if_neg h93)] at ih
          exact ih _ ⟨i, hTu2⟩ hQu2
        · refine run_ok 3 (c' := (103, [(0, .ref 48), (1, .int (nI c)), (2, .int (nI k)), (3, .int (nI 0)), (4, .long (lN (chs T c k i))), (6, .int (nI i)), (7, .long (lN (wgt (wlo T i) c (tne T)))), (9, .int (nI (tne T)))], [.long ((lN (chs T c k i)) + (lN (wgt (wlo T i) c (tne T))))], u2)) rfl ?_
          refine x_topl (v' := lN (chs T c k i + wgt (wlo T i) c (tne T))) (lN_add _ _) ?_
          refine run_ok 2 (c' := (108, [(0, .ref 48), (1, .int (nI c)), (2, .int (nI k)), (3, .int (nI 0)), (4, .long (lN (chs T c k i + wgt (wlo T i) c (tne T)))), (6, .int (nI i + nI 1)), (7, .long (lN (wgt (wlo T i) c (tne T)))), (9, .int (nI (tne T)))], [], u2)) rfl ?_
          rw [nI_add i 1]
          refine run_ok 1 (c' := (10, [(0, .ref 48), (1, .int (nI c)), (2, .int (nI k)), (3, .int (nI 0)), (4, .long (lN (chs T c k i + wgt (wlo T i) c (tne T)))), (6, .int (nI (i + 1))), (7, .long (lN (wgt (wlo T i) c (tne T)))), (9, .int (nI (tne T)))], [], u2)) rfl ?_
          refine x_less [0, 1, 2, 3, 4, 5] rfl ?_
          rw [show chs T c k (i + 1) = chs T c k i + wgt (wlo T i) c (tne T) from congrArg (chs T c k i + ·) (if_pos h93)] at ih
          exact ih _ ⟨i, hTu2⟩ hQu2
    · intro j hj ihj
      refine run_ok 3 (c' := (33, [(0, .ref 48), (1, .int (nI c)), (2, .int (nI k)), (3, .int (nI 0)), (4, .long (lN (chs T c k i))), (6, .int (nI i)), (7, .long (lN (wgt (wlo T i) c j))), (9, .int (nI j))], [.int (v.1 48 10), .int (nI j)], v)) rfl ?_
      refine x_top (v' := nI (tne T)) f10 ?_
      refine x_icmpN_ge 67 rfl rfl (by omega) (by omega) (fun hn => absurd hn (show ¬ tne T ≤ j by omega)) (fun h33 => ?_)
      refine run_ok 3 (c' := (42, [(0, .ref 48), (1, .int (nI c)), (2, .int (nI k)), (3, .int (nI 0)), (4, .long (lN (chs T c k i))), (6, .int (nI i)), (7, .long (lN (wgt (wlo T i) c j))), (9, .int (nI j))], [.int (nI j), .int (nI i), .long (lN (wgt (wlo T i) c j))], v)) rfl ?_
      refine x_callS [.int (nI i), .int (nI j)] rfl cs_R_isIn.1 lk_7_204 cs_R_isIn.2.1 rfl rfl (Nat.le_of_ble_eq_true rfl) (by decide) cs_R_isIn.2.2 (m_isIn v i j (by omega) (by omega)) ?_
      rintro r z ⟨hr, hu⟩
      rw [hr, hu]
      clear hr hu r z
      refine x_ifB_eq 56 rfl rfl (fun h45 => ?_) (fun h45 => ?_)
      · refine run_ok 2 (c' := (58, [(0, .ref 48), (1, .int (nI c)), (2, .int (nI k)), (3, .int (nI 0)), (4, .long (lN (chs T c k i))), (6, .int (nI i)), (7, .long (lN (wgt (wlo T i) c j))), (9, .int (nI j))], [.long ((nI c).toInt64), .long (lN (wgt (wlo T i) c j))], v)) rfl ?_
        refine x_topl (v' := lN (c)) (nI_l (by omega)) ?_
        refine run_ok 1 (c' := (59, [(0, .ref 48), (1, .int (nI c)), (2, .int (nI k)), (3, .int (nI 0)), (4, .long (lN (chs T c k i))), (6, .int (nI i)), (7, .long (lN (wgt (wlo T i) c j))), (9, .int (nI j))], [.long ((lN (wgt (wlo T i) c j)) * (lN (c)))], v)) rfl ?_
        refine x_topl (v' := lN (wgt (wlo T i) c j * (c))) (lN_mul _ _) ?_
        refine run_ok 2 (c' := (64, [(0, .ref 48), (1, .int (nI c)), (2, .int (nI k)), (3, .int (nI 0)), (4, .long (lN (chs T c k i))), (6, .int (nI i)), (7, .long (lN (wgt (wlo T i) c j * (c)))), (9, .int (nI j + nI 1))], [], v)) rfl ?_
        rw [nI_add j 1]
        refine run_ok 1 (c' := (27, [(0, .ref 48), (1, .int (nI c)), (2, .int (nI k)), (3, .int (nI 0)), (4, .long (lN (chs T c k i))), (6, .int (nI i)), (7, .long (lN (wgt (wlo T i) c j * (c)))), (9, .int (nI (j + 1)))], [], v)) rfl ?_
        refine x_less [0, 1, 2, 3, 4, 5, 6, 7] rfl ?_
        rw [show wgt (wlo T i) c (j + 1) = wgt (wlo T i) c j * (c) from congrArg (wgt (wlo T i) c j * ·) (if_neg h45)] at ihj
        exact ihj
      · refine run_ok 3 (c' := (52, [(0, .ref 48), (1, .int (nI c)), (2, .int (nI k)), (3, .int (nI 0)), (4, .long (lN (chs T c k i))), (6, .int (nI i)), (7, .long (lN (wgt (wlo T i) c j))), (9, .int (nI j))], [.int ((nI 16) - (nI c)), .long (lN (wgt (wlo T i) c j))], v)) rfl ?_
        refine x_top (v' := nI (16 - c)) (pk_sub hc) ?_
        refine run_ok 1 (c' := (53, [(0, .ref 48), (1, .int (nI c)), (2, .int (nI k)), (3, .int (nI 0)), (4, .long (lN (chs T c k i))), (6, .int (nI i)), (7, .long (lN (wgt (wlo T i) c j))), (9, .int (nI j))], [.long ((nI (16 - c)).toInt64), .long (lN (wgt (wlo T i) c j))], v)) rfl ?_
        refine x_topl (v' := lN (16 - c)) (nI_l (by omega)) ?_
        refine run_ok 2 (c' := (59, [(0, .ref 48), (1, .int (nI c)), (2, .int (nI k)), (3, .int (nI 0)), (4, .long (lN (chs T c k i))), (6, .int (nI i)), (7, .long (lN (wgt (wlo T i) c j))), (9, .int (nI j))], [.long ((lN (wgt (wlo T i) c j)) * (lN (16 - c)))], v)) rfl ?_
        refine x_topl (v' := lN (wgt (wlo T i) c j * (16 - c))) (lN_mul _ _) ?_
        refine run_ok 2 (c' := (64, [(0, .ref 48), (1, .int (nI c)), (2, .int (nI k)), (3, .int (nI 0)), (4, .long (lN (chs T c k i))), (6, .int (nI i)), (7, .long (lN (wgt (wlo T i) c j * (16 - c)))), (9, .int (nI j + nI 1))], [], v)) rfl ?_
        rw [nI_add j 1]
        refine run_ok 1 (c' := (27, [(0, .ref 48), (1, .int (nI c)), (2, .int (nI k)), (3, .int (nI 0)), (4, .long (lN (chs T c k i))), (6, .int (nI i)), (7, .long (lN (wgt (wlo T i) c j * (16 - c)))), (9, .int (nI (j + 1)))], [], v)) rfl ?_
        refine x_less [0, 1, 2, 3, 4, 5, 6, 7] rfl ?_
        rw [show wgt (wlo T i) c (j + 1) = wgt (wlo T i) c j * (16 - c) from congrArg (wgt (wlo T i) c j * ·) (if_pos h45)] at ihj
        exact ihj

set_option maxHeartbeats 2000000 in
theorem m_chance_ok0 (S : ST) (T : TD) (n : Nat) (b : Nat → Nat) (n' : Nat) (b' : Nat → Nat) (hL : ML T n b n' b' S) (hto : tok T) (c k : Nat) (hc : c ≤ 16) (hk : k < tnb T) : EX me_R_chance 8 [.ref 48, .int (nI c), .int (nI k), .int (nI 0)] S (fun r u => r = some (.long (lN (chs T c k (2 ^ tne T) / 2 ^ hlv (chs T c k (2 ^ tne T)) (4 * tne T) 0))) ∧ QM S u) := by
  refine EX.of mok_R_chance (Nat.le_of_ble_eq_true rfl) ?_
  have n8 := hto.1
  refine run_ok 3 (c' := (4, [(0, .ref 48), (1, .int (nI c)), (2, .int (nI k)), (3, .int (nI 0))], [.int (nI 16), .int (nI 0), .int (nI c)], S)) rfl ?_
  refine x_callS [.int (nI c), .int (nI 0), .int (nI 16)] rfl cs_R_in.1 lk_7_115 cs_R_in.2.1 rfl rfl (Nat.le_of_ble_eq_true rfl) (by decide) cs_R_in.2.2 (m_in S (nI c) (nI 0) (nI 16)) ?_
  rintro r u ⟨hr, hu⟩
  rw [hr, hu]
  clear hr hu r u
  refine x_top (v' := b2 (0 ≤ nI c ∧ nI c < nI 17)) (b2_c (and_congr Iff.rfl (le_nI (n := 16) (by decide)))) ?_
  refine x_ifB_eq 35 rfl rfl (fun hn => absurd hn (fun z => z (inr_t (by omega) (by decide)))) (fun h7 => ?_)
  refine run_ok 2 (c' := (12, [(0, .ref 48), (1, .int (nI c)), (2, .int (nI k)), (3, .int (nI 0))], [.int (nI k), .ref 48], S)) rfl ?_
  refine x_callV [.int (nI k)] rfl cv_R_isBoat.1 lk_7_163 cv_R_isBoat.2.1 cv_R_isBoat.2.2.1 rfl cv_R_isBoat.2.2.2.1 rfl rfl (Nat.le_of_ble_eq_true rfl) (by decide) cv_R_isBoat.2.2.2.2 (m_isBoat S T n b n' b' (hL.stay QM.rf) hto (nI k)) ?_
  rintro r u1 ⟨hr, hRu1, hqu1⟩
  rw [hr]
  clear hr r
  have hQu1 : QM S u1 := QM.rf.tr hqu1
  refine x_ifB_eq 35 rfl rfl (fun hn => absurd hn (fun z => z (inr_t hk (by omega)))) (fun h15 => ?_)
  refine run_ok 1 (c' := (19, [(0, .ref 48), (1, .int (nI c)), (2, .int (nI k)), (3, .int (nI 0))], [.int (nI 0)], u1)) rfl ?_
  refine x_callS [.int (nI 0)] rfl cs_R_isTwo.1 lk_7_241 cs_R_isTwo.2.1 rfl rfl (Nat.le_of_ble_eq_true rfl) (by decide) cs_R_isTwo.2.2 (m_isTwo u1 (nI 0)) ?_
  rintro r u ⟨hr, hu⟩
  rw [hr, hu]
  clear hr hu r u
  refine x_ifB_eq 35 rfl rfl (fun hn => absurd hn (fun z => z (inr_t (by decide) (by decide)))) (fun h22 => ?_)
  refine run_ok 4 (c' := (29, [(0, .ref 48), (1, .int (nI c)), (2, .int (nI k)), (3, .int (nI 0))], [.int (nI 0), .int (nI k), .int (nI c), .ref 48], u1)) rfl ?_
  refine x_callV [.int (nI c), .int (nI k), .int (nI 0)] rfl cv_R_chanceOf.1 lk_7_310 cv_R_chanceOf.2.1 cv_R_chanceOf.2.2.1 rfl cv_R_chanceOf.2.2.2.1 rfl rfl (Nat.le_of_ble_eq_true rfl) (by decide) cv_R_chanceOf.2.2.2.2 (m_chanceOf0 u1 T n b n' b' (hL.stay hQu1) hto c k hc hk) ?_
  rintro r u2 ⟨hr, hB, hqu2⟩
  rw [hr]
  clear hr r
  have hQu2 : QM S u2 := hQu1.tr hqu2
  refine run_ok 1 (c' := (40, [(0, .ref 48), (1, .int (nI c)), (2, .int (nI k)), (3, .int (nI 0))], [.long (lN (chs T c k (2 ^ tne T) / 2 ^ hlv (chs T c k (2 ^ tne T)) (4 * tne T) 0))], u2)) rfl ?_
  exact x_ret (r := some (.long (lN (chs T c k (2 ^ tne T) / 2 ^ hlv (chs T c k (2 ^ tne T)) (4 * tne T) 0)))) rfl rfl trivial ⟨rfl, hQu2⟩ rfl

set_option maxHeartbeats 2000000 in
theorem m_chanceOf1 (S : ST) (T : TD) (n : Nat) (b : Nat → Nat) (n' : Nat) (b' : Nat → Nat) (hL : ML T n b n' b' S) (hto : tok T) (c k : Nat) (hc : c ≤ 16) (hk : k < tnb T) : EX me_R_chanceOf 7 [.ref 48, .int (nI c), .int (nI k), .int (nI 1)] S (fun r u => r = some (.long (lN (2 ^ (4 * tne T - hlv (chs T c k (2 ^ tne T)) (4 * tne T) 0)))) ∧ BT T u ∧ QM S u) := by
  refine EX.of mok_R_chanceOf (Nat.le_of_ble_eq_true rfl) ?_
  have n8 := hto.1
  have ne8 := hL.2.2.2.2.2.2.2.2.2.1
  have p8 : 2 ^ tne T ≤ 2 ^ 8 := Nat.pow_le_pow_right (by decide) ne8
  have p9 := chs_le T hc k ne8 (2 ^ tne T)
  have p10 : 2 ^ (4 * tne T) ≤ 2 ^ 32 := Nat.pow_le_pow_right (by decide) (by omega)
  refine run_ok 1 (c' := (1, [(0, .ref 48), (1, .int (nI c)), (2, .int (nI k)), (3, .int (nI 1))], [.ref 48], S)) rfl ?_
  refine x_callV [] rfl cv_R_asTold.1 lk_7_220 cv_R_asTold.2.1 cv_R_asTold.2.2.1 rfl cv_R_asTold.2.2.2.1 rfl rfl (Nat.le_of_ble_eq_true rfl) (by decide) cv_R_asTold.2.2.2.2 (m_asTold S T n b n' b' (hL.stay QM.rf) hto) ?_
  rintro r u1 ⟨hr, hTu1, hRu1, hqu1⟩
  rw [hr]
  clear hr r
  have hQu1 : QM S u1 := QM.rf.tr hqu1
  obtain ⟨t1, t2, t3, t4, t5, t6, t7, t8, t9, t10, t11⟩ := id hTu1
  refine run_ok 4 (c' := (10, [(0, .ref 48), (1, .int (nI c)), (2, .int (nI k)), (3, .int (nI 1)), (4, .long 0), (6, .int (nI 0))], [], u1)) rfl ?_
  refine loop_up (P := fun i => ∀ v : ST, (∃ l, MT (wlo T l) v) → QM S v → BX me_R_chanceOf 7 none (fun r u => r = some (.long (lN (2 ^ (4 * tne T - hlv (chs T c k (2 ^ tne T)) (4 * tne T) 0)))) ∧ BT T u ∧ QM S u) (10, [(0, .ref 48), (1, .int (nI c)), (2, .int (nI k)), (3, .int (nI 1)), (4, .long (lN (chs T c k i))), (6, .int (nI i))], [], v)) (2 ^ tne T) ?_ ?_ 0 (Nat.zero_le _) _ ⟨tlo T, hTu1⟩ hQu1
  · intro v hI hQv
    have f10 := (hL.stay hQv).2.2.2.2.2.2.2.2.1
    refine run_ok 4 (c' := (17, [(0, .ref 48), (1, .int (nI c)), (2, .int (nI k)), (3, .int (nI 1)), (4, .long (lN (chs T c k (2 ^ tne T)))), (6, .int (nI (2 ^ tne T)))], [.int (v.1 48 10), .int (nI 1), .int (nI (2 ^ tne T))], v)) rfl ?_
    refine x_top (v' := nI (tne T)) f10 ?_
    refine run_ok 1 (c' := (18, [(0, .ref 48), (1, .int (nI c)), (2, .int (nI k)), (3, .int (nI 1)), (4, .long (lN (chs T c k (2 ^ tne T)))), (6, .int (nI (2 ^ tne T)))], [.int ((nI 1) <<< ((nI (tne T)) &&& 31)), .int (nI (2 ^ tne T))], v)) rfl ?_
    refine x_top (v' := nI (2 ^ tne T)) (sh1 (by omega)) ?_
    refine x_icmpN_ge 111 rfl rfl (by omega) (by omega) (fun h18 => ?_) (fun hn => absurd (Nat.le_refl _) hn)
    refine run_ok 5 (c' := (119, [(0, .ref 48), (1, .int (nI c)), (2, .int (nI k)), (3, .int (nI 1)), (4, .long (lN (chs T c k (2 ^ tne T)))), (6, .int (nI (2 ^ tne T)))], [.int (v.1 48 10), .int (nI 4), .long 1, .long (lN (chs T c k (2 ^ tne T)))], v)) rfl ?_
    refine x_top (v' := nI (tne T)) f10 ?_
    refine run_ok 1 (c' := (120, [(0, .ref 48), (1, .int (nI c)), (2, .int (nI k)), (3, .int (nI 1)), (4, .long (lN (chs T c k (2 ^ tne T)))), (6, .int (nI (2 ^ tne T)))], [.int ((nI 4) * (nI (tne T))), .long 1, .long (lN (chs T c k (2 ^ tne T)))], v)) rfl ?_
    refine x_top (v' := nI (4 * (tne T))) (pk_mul _ _) ?_
    refine run_ok 1 (c' := (121, [(0, .ref 48), (1, .int (nI c)), (2, .int (nI k)), (3, .int (nI 1)), (4, .long (lN (chs T c k (2 ^ tne T)))), (6, .int (nI (2 ^ tne T)))], [.long (1 <<< ((nI (4 * (tne T))).toInt64 &&& 63)), .long (lN (chs T c k (2 ^ tne T)))], v)) rfl ?_
    refine x_topl (v' := lN (2 ^ (4 * tne T))) (by rw [show (1 : Int64) = lN 1 from rfl, wb_shl 1 (by omega), Nat.one_mul]) ?_
    refine run_ok 1 (c' := (122, [(0, .ref 48), (1, .int (nI c)), (2, .int (nI k)), (3, .int (nI 1)), (4, .long (lN (chs T c k (2 ^ tne T)))), (6, .int (nI (2 ^ tne T)))], [.int (nI 1), .long (lN (2 ^ (4 * tne T))), .long (lN (chs T c k (2 ^ tne T)))], v)) rfl ?_
    refine x_callS [.long (lN (chs T c k (2 ^ tne T))), .long (lN (2 ^ (4 * tne T))), .int (nI 1)] rfl cs_R_lowest.1 lk_7_306 cs_R_lowest.2.1 rfl rfl (Nat.le_of_ble_eq_true rfl) (by decide) cs_R_lowest.2.2 (m_lowest1 v (chs T c k (2 ^ tne T)) (2 ^ (4 * tne T)) (by omega) (by omega) (Nat.pos_of_ne_zero (by simp))) ?_
    rintro r z ⟨hr, hu⟩
    rw [hr, hu]
    clear hr hu r z
    exact x_ret (r := some (.long (lN (2 ^ (4 * tne T) / Nat.gcd (chs T c k (2 ^ tne T)) (2 ^ (4 * tne T)))))) rfl rfl trivial ⟨by rw [gcd_hl, hlv_div], hI.elim (fun _ h => h.bt), hQv⟩ rfl
  · intro i hi ih v hI hQv
    have f10 := (hL.stay hQv).2.2.2.2.2.2.2.2.1
    obtain ⟨l, hTl⟩ := hI
    refine run_ok 4 (c' := (17, [(0, .ref 48), (1, .int (nI c)), (2, .int (nI k)), (3, .int (nI 1)), (4, .long (lN (chs T c k i))), (6, .int (nI i))], [.int (v.1 48 10), .int (nI 1), .int (nI i)], v)) rfl ?_
    refine x_top (v' := nI (tne T)) f10 ?_
    refine run_ok 1 (c' := (18, [(0, .ref 48), (1, .int (nI c)), (2, .int (nI k)), (3, .int (nI 1)), (4, .long (lN (chs T c k i))), (6, .int (nI i))], [.int ((nI 1) <<< ((nI (tne T)) &&& 31)), .int (nI i)], v)) rfl ?_
    refine x_top (v' := nI (2 ^ tne T)) (sh1 (by omega)) ?_
    refine x_icmpN_ge 111 rfl rfl (by omega) (by omega) (fun hn => absurd hn (show ¬ 2 ^ tne T ≤ i by omega)) (fun h18 => ?_)
    refine run_ok 4 (c' := (27, [(0, .ref 48), (1, .int (nI c)), (2, .int (nI k)), (3, .int (nI 1)), (4, .long (lN (chs T c k i))), (6, .int (nI i)), (7, .long 1), (9, .int (nI 0))], [], v)) rfl ?_
    refine loop_up (P := fun j => BX me_R_chanceOf 7 none (fun r u => r = some (.long (lN (2 ^ (4 * tne T - hlv (chs T c k (2 ^ tne T)) (4 * tne T) 0)))) ∧ BT T u ∧ QM S u) (27, [(0, .ref 48), (1, .int (nI c)), (2, .int (nI k)), (3, .int (nI 1)), (4, .long (lN (chs T c k i))), (6, .int (nI i)), (7, .long (lN (wgt (wlo T i) c j))), (9, .int (nI j))], [], v)) (tne T) ?_ ?_ 0 (by omega)
    · skip
      refine run_ok 3 (c' := (33, [(0, .ref 48), (1, .int (nI c)), (2, .int (nI k)), (3, .int (nI 1)), (4, .long (lN (chs T c k i))), (6, .int (nI i)), (7, .long (lN (wgt (wlo T i) c (tne T)))), (9, .int (nI (tne T)))], [.int (v.1 48 10), .int (nI (tne T))], v)) rfl ?_
      refine x_top (v' := nI (tne T)) f10 ?_
      refine x_icmpN_ge 67 rfl rfl (by omega) (by omega) (fun h33 => ?_) (fun hn => absurd (Nat.le_refl _) hn)
      have w1 := wgt_le (wlo T i) hc (tne T)
      have w2 : 16 ^ tne T ≤ 16 ^ 8 := Nat.pow_le_pow_right (by decide) ne8
      refine run_ok 3 (c' := (71, [(0, .ref 48), (1, .int (nI c)), (2, .int (nI k)), (3, .int (nI 1)), (4, .long (lN (chs T c k i))), (6, .int (nI i)), (7, .long (lN (wgt (wlo T i) c (tne T)))), (9, .int (nI (tne T)))], [.int (lg_cmp (lN (wgt (wlo T i) c (tne T))) 0)], v)) rfl ?_
      refine x_if_le 105 rfl rfl (fun h71 => ?_) (fun h71 => ?_)
      · refine run_ok 1 (c' := (108, [(0, .ref 48), (1, .int (nI c)), (2, .int (nI k)), (3, .int (nI 1)), (4, .long (lN (chs T c k i))), (6, .int (nI i + nI 1)), (7, .long (lN (wgt (wlo T i) c (tne T)))), (9, .int (nI (tne T)))], [], v)) rfl ?_
        rw [nI_add i 1]
        refine run_ok 1 (c' := (10, [(0, .ref 48), (1, .int (nI c)), (2, .int (nI k)), (3, .int (nI 1)), (4, .long (lN (chs T c k i))), (6, .int (nI (i + 1))), (7, .long (lN (wgt (wlo T i) c (tne T)))), (9, .int (nI (tne T)))], [], v)) rfl ?_
        refine x_less [0, 1, 2, 3, 4, 5] rfl ?_
        rw [show chs T c k (i + 1) = chs T c k i from by show chs T c k i + _ = _; rw [(lg_le0 (by omega)).mp h71, ite_self, Nat.add_zero]] at ih
        exact ih v ⟨l, hTl⟩ hQv
      · refine run_ok 4 (c' := (81, [(0, .ref 48), (1, .int (nI c)), (2, .int (nI k)), (3, .int (nI 1)), (4, .long (lN (chs T c k i))), (6, .int (nI i)), (7, .long (lN (wgt (wlo T i) c (tne T)))), (9, .int (nI (tne T)))], [.ref 48], (pt v 48 18 (nI i)))) rfl ?_
        refine x_callV [] rfl cv_R_runs.1 lk_7_223 cv_R_runs.2.1 cv_R_runs.2.2.1 rfl cv_R_runs.2.2.2.1 rfl rfl (Nat.le_of_ble_eq_true rfl) (by decide) cv_R_runs.2.2.2.2 (m_runs (pt v 48 18 (nI i)) (wlo T i) (MT_lo hTl) (tok_wlo hto (by omega))) ?_
        rintro r u2 ⟨hr, hMu2, hCu2, hTu2, hfu2, h8u2, h2u2⟩
        rw [hr]
        clear hr r
        have hQu2 : QM S u2 := (hQv.fld (by decide)).tr (QM.of hfu2 h8u2 h2u2 (by decide) (by decide))
        obtain ⟨m1, m2, m3, m4, m5, m6, m7⟩ := id hMu2
        have hk2 : k < tnb (wlo T i) := hk
        have v3 := ((vk_vo (tok_wlo hto (show i < 512 by omega)) 24 (by omega)).1.2.1 k (by omega)).1
        refine run_ok 4 (c' := (91, [(0, .ref 48), (1, .int (nI c)), (2, .int (nI k)), (3, .int (nI 1)), (4, .long (lN (chs T c k i))), (6, .int (nI i)), (7, .long (lN (wgt (wlo T i) c (tne T)))), (9, .int (nI (tne T)))], [.int (nI k), .ref 64, .long (lN (chs T c k i))], u2)) rfl ?_
        refine x_iaN (nI (vis (vo (wlo T i) 24) k)) rfl rfl (by decide) (by omega) (m2 k (by omega)) ?_
        refine run_ok 1 (c' := (93, [(0, .ref 48), (1, .int (nI c)), (2, .int (nI k)), (3, .int (nI 1)), (4, .long (lN (chs T c k i))), (6, .int (nI i)), (7, .long (lN (wgt (wlo T i) c (tne T)))), (9, .int (nI (tne T)))], [.int (nI 2), .int (nI (vis (vo (wlo T i) 24) k)), .long (lN (chs T c k i))], u2)) rfl ?_
        refine x_icmpN_ne 101 rfl rfl (by omega) (by omega) (fun h93 => ?_) (fun h93 => ?_)
        · refine run_ok 2 (c' := (103, [(0, .ref 48), (1, .int (nI c)), (2, .int (nI k)), (3, .int (nI 1)), (4, .long (lN (chs T c k i))), (6, .int (nI i)), (7, .long (lN (wgt (wlo T i) c (tne T)))), (9, .int (nI (tne T)))], [.long ((lN (chs T c k i)) + 0)], u2)) rfl ?_
          refine x_topl (v' := lN (chs T c k i)) (Int64.add_zero _) ?_
          refine run_ok 2 (c' := (108, [(0, .ref 48), (1, .int (nI c)), (2, .int (nI k)), (3, .int (nI 1)), (4, .long (lN (chs T c k i))), (6, .int (nI i + nI 1)), (7, .long (lN (wgt (wlo T i) c (tne T)))), (9, .int (nI (tne T)))], [], u2)) rfl ?_
          rw [nI_add i 1]
          refine run_ok 1 (c' := (10, [(0, .ref 48), (1, .int (nI c)), (2, .int (nI k)), (3, .int (nI 1)), (4, .long (lN (chs T c k i))), (6, .int (nI (i + 1))), (7, .long (lN (wgt (wlo T i) c (tne T)))), (9, .int (nI (tne T)))], [], u2)) rfl ?_
          refine x_less [0, 1, 2, 3, 4, 5] rfl ?_
          rw [show chs T c k (i + 1) = chs T c k i from congrArg (chs T c k i + ·) (if_neg h93)] at ih
          exact ih _ ⟨i, hTu2⟩ hQu2
        · refine run_ok 3 (c' := (103, [(0, .ref 48), (1, .int (nI c)), (2, .int (nI k)), (3, .int (nI 1)), (4, .long (lN (chs T c k i))), (6, .int (nI i)), (7, .long (lN (wgt (wlo T i) c (tne T)))), (9, .int (nI (tne T)))], [.long ((lN (chs T c k i)) + (lN (wgt (wlo T i) c (tne T))))], u2)) rfl ?_
          refine x_topl (v' := lN (chs T c k i + wgt (wlo T i) c (tne T))) (lN_add _ _) ?_
          refine run_ok 2 (c' := (108, [(0, .ref 48), (1, .int (nI c)), (2, .int (nI k)), (3, .int (nI 1)), (4, .long (lN (chs T c k i + wgt (wlo T i) c (tne T)))), (6, .int (nI i + nI 1)), (7, .long (lN (wgt (wlo T i) c (tne T)))), (9, .int (nI (tne T)))], [], u2)) rfl ?_
          rw [nI_add i 1]
          refine run_ok 1 (c' := (10, [(0, .ref 48), (1, .int (nI c)), (2, .int (nI k)), (3, .int (nI 1)), (4, .long (lN (chs T c k i + wgt (wlo T i) c (tne T)))), (6, .int (nI (i + 1))), (7, .long (lN (wgt (wlo T i) c (tne T)))), (9, .int (nI (tne T)))], [], u2)) rfl ?_
          refine x_less [0, 1, 2, 3, 4, 5] rfl ?_
          rw [show chs T c k (i + 1) = chs T c k i + wgt (wlo T i) c (tne T) from congrArg (chs T c k i + ·) (if_pos h93)] at ih
          exact ih _ ⟨i, hTu2⟩ hQu2
    · intro j hj ihj
      refine run_ok 3 (c' := (33, [(0, .ref 48), (1, .int (nI c)), (2, .int (nI k)), (3, .int (nI 1)), (4, .long (lN (chs T c k i))), (6, .int (nI i)), (7, .long (lN (wgt (wlo T i) c j))), (9, .int (nI j))], [.int (v.1 48 10), .int (nI j)], v)) rfl ?_
      refine x_top (v' := nI (tne T)) f10 ?_
      refine x_icmpN_ge 67 rfl rfl (by omega) (by omega) (fun hn => absurd hn (show ¬ tne T ≤ j by omega)) (fun h33 => ?_)
      refine run_ok 3 (c' := (42, [(0, .ref 48), (1, .int (nI c)), (2, .int (nI k)), (3, .int (nI 1)), (4, .long (lN (chs T c k i))), (6, .int (nI i)), (7, .long (lN (wgt (wlo T i) c j))), (9, .int (nI j))], [.int (nI j), .int (nI i), .long (lN (wgt (wlo T i) c j))], v)) rfl ?_
      refine x_callS [.int (nI i), .int (nI j)] rfl cs_R_isIn.1 lk_7_204 cs_R_isIn.2.1 rfl rfl (Nat.le_of_ble_eq_true rfl) (by decide) cs_R_isIn.2.2 (m_isIn v i j (by omega) (by omega)) ?_
      rintro r z ⟨hr, hu⟩
      rw [hr, hu]
      clear hr hu r z
      refine x_ifB_eq 56 rfl rfl (fun h45 => ?_) (fun h45 => ?_)
      · refine run_ok 2 (c' := (58, [(0, .ref 48), (1, .int (nI c)), (2, .int (nI k)), (3, .int (nI 1)), (4, .long (lN (chs T c k i))), (6, .int (nI i)), (7, .long (lN (wgt (wlo T i) c j))), (9, .int (nI j))], [.long ((nI c).toInt64), .long (lN (wgt (wlo T i) c j))], v)) rfl ?_
        refine x_topl (v' := lN (c)) (nI_l (by omega)) ?_
        refine run_ok 1 (c' := (59, [(0, .ref 48), (1, .int (nI c)), (2, .int (nI k)), (3, .int (nI 1)), (4, .long (lN (chs T c k i))), (6, .int (nI i)), (7, .long (lN (wgt (wlo T i) c j))), (9, .int (nI j))], [.long ((lN (wgt (wlo T i) c j)) * (lN (c)))], v)) rfl ?_
        refine x_topl (v' := lN (wgt (wlo T i) c j * (c))) (lN_mul _ _) ?_
        refine run_ok 2 (c' := (64, [(0, .ref 48), (1, .int (nI c)), (2, .int (nI k)), (3, .int (nI 1)), (4, .long (lN (chs T c k i))), (6, .int (nI i)), (7, .long (lN (wgt (wlo T i) c j * (c)))), (9, .int (nI j + nI 1))], [], v)) rfl ?_
        rw [nI_add j 1]
        refine run_ok 1 (c' := (27, [(0, .ref 48), (1, .int (nI c)), (2, .int (nI k)), (3, .int (nI 1)), (4, .long (lN (chs T c k i))), (6, .int (nI i)), (7, .long (lN (wgt (wlo T i) c j * (c)))), (9, .int (nI (j + 1)))], [], v)) rfl ?_
        refine x_less [0, 1, 2, 3, 4, 5, 6, 7] rfl ?_
        rw [show wgt (wlo T i) c (j + 1) = wgt (wlo T i) c j * (c) from congrArg (wgt (wlo T i) c j * ·) (if_neg h45)] at ihj
        exact ihj
      · refine run_ok 3 (c' := (52, [(0, .ref 48), (1, .int (nI c)), (2, .int (nI k)), (3, .int (nI 1)), (4, .long (lN (chs T c k i))), (6, .int (nI i)), (7, .long (lN (wgt (wlo T i) c j))), (9, .int (nI j))], [.int ((nI 16) - (nI c)), .long (lN (wgt (wlo T i) c j))], v)) rfl ?_
        refine x_top (v' := nI (16 - c)) (pk_sub hc) ?_
        refine run_ok 1 (c' := (53, [(0, .ref 48), (1, .int (nI c)), (2, .int (nI k)), (3, .int (nI 1)), (4, .long (lN (chs T c k i))), (6, .int (nI i)), (7, .long (lN (wgt (wlo T i) c j))), (9, .int (nI j))], [.long ((nI (16 - c)).toInt64), .long (lN (wgt (wlo T i) c j))], v)) rfl ?_
        refine x_topl (v' := lN (16 - c)) (nI_l (by omega)) ?_
        refine run_ok 2 (c' := (59, [(0, .ref 48), (1, .int (nI c)), (2, .int (nI k)), (3, .int (nI 1)), (4, .long (lN (chs T c k i))), (6, .int (nI i)), (7, .long (lN (wgt (wlo T i) c j))), (9, .int (nI j))], [.long ((lN (wgt (wlo T i) c j)) * (lN (16 - c)))], v)) rfl ?_
        refine x_topl (v' := lN (wgt (wlo T i) c j * (16 - c))) (lN_mul _ _) ?_
        refine run_ok 2 (c' := (64, [(0, .ref 48), (1, .int (nI c)), (2, .int (nI k)), (3, .int (nI 1)), (4, .long (lN (chs T c k i))), (6, .int (nI i)), (7, .long (lN (wgt (wlo T i) c j * (16 - c)))), (9, .int (nI j + nI 1))], [], v)) rfl ?_
        rw [nI_add j 1]
        refine run_ok 1 (c' := (27, [(0, .ref 48), (1, .int (nI c)), (2, .int (nI k)), (3, .int (nI 1)), (4, .long (lN (chs T c k i))), (6, .int (nI i)), (7, .long (lN (wgt (wlo T i) c j * (16 - c)))), (9, .int (nI (j + 1)))], [], v)) rfl ?_
        refine x_less [0, 1, 2, 3, 4, 5, 6, 7] rfl ?_
        rw [show wgt (wlo T i) c (j + 1) = wgt (wlo T i) c j * (16 - c) from congrArg (wgt (wlo T i) c j * ·) (if_pos h45)] at ihj
        exact ihj

set_option maxHeartbeats 2000000 in
theorem m_chance_ok1 (S : ST) (T : TD) (n : Nat) (b : Nat → Nat) (n' : Nat) (b' : Nat → Nat) (hL : ML T n b n' b' S) (hto : tok T) (c k : Nat) (hc : c ≤ 16) (hk : k < tnb T) : EX me_R_chance 8 [.ref 48, .int (nI c), .int (nI k), .int (nI 1)] S (fun r u => r = some (.long (lN (2 ^ (4 * tne T - hlv (chs T c k (2 ^ tne T)) (4 * tne T) 0)))) ∧ QM S u) := by
  refine EX.of mok_R_chance (Nat.le_of_ble_eq_true rfl) ?_
  have n8 := hto.1
  refine run_ok 3 (c' := (4, [(0, .ref 48), (1, .int (nI c)), (2, .int (nI k)), (3, .int (nI 1))], [.int (nI 16), .int (nI 0), .int (nI c)], S)) rfl ?_
  refine x_callS [.int (nI c), .int (nI 0), .int (nI 16)] rfl cs_R_in.1 lk_7_115 cs_R_in.2.1 rfl rfl (Nat.le_of_ble_eq_true rfl) (by decide) cs_R_in.2.2 (m_in S (nI c) (nI 0) (nI 16)) ?_
  rintro r u ⟨hr, hu⟩
  rw [hr, hu]
  clear hr hu r u
  refine x_top (v' := b2 (0 ≤ nI c ∧ nI c < nI 17)) (b2_c (and_congr Iff.rfl (le_nI (n := 16) (by decide)))) ?_
  refine x_ifB_eq 35 rfl rfl (fun hn => absurd hn (fun z => z (inr_t (by omega) (by decide)))) (fun h7 => ?_)
  refine run_ok 2 (c' := (12, [(0, .ref 48), (1, .int (nI c)), (2, .int (nI k)), (3, .int (nI 1))], [.int (nI k), .ref 48], S)) rfl ?_
  refine x_callV [.int (nI k)] rfl cv_R_isBoat.1 lk_7_163 cv_R_isBoat.2.1 cv_R_isBoat.2.2.1 rfl cv_R_isBoat.2.2.2.1 rfl rfl (Nat.le_of_ble_eq_true rfl) (by decide) cv_R_isBoat.2.2.2.2 (m_isBoat S T n b n' b' (hL.stay QM.rf) hto (nI k)) ?_
  rintro r u1 ⟨hr, hRu1, hqu1⟩
  rw [hr]
  clear hr r
  have hQu1 : QM S u1 := QM.rf.tr hqu1
  refine x_ifB_eq 35 rfl rfl (fun hn => absurd hn (fun z => z (inr_t hk (by omega)))) (fun h15 => ?_)
  refine run_ok 1 (c' := (19, [(0, .ref 48), (1, .int (nI c)), (2, .int (nI k)), (3, .int (nI 1))], [.int (nI 1)], u1)) rfl ?_
  refine x_callS [.int (nI 1)] rfl cs_R_isTwo.1 lk_7_241 cs_R_isTwo.2.1 rfl rfl (Nat.le_of_ble_eq_true rfl) (by decide) cs_R_isTwo.2.2 (m_isTwo u1 (nI 1)) ?_
  rintro r u ⟨hr, hu⟩
  rw [hr, hu]
  clear hr hu r u
  refine x_ifB_eq 35 rfl rfl (fun hn => absurd hn (fun z => z (inr_t (by decide) (by decide)))) (fun h22 => ?_)
  refine run_ok 4 (c' := (29, [(0, .ref 48), (1, .int (nI c)), (2, .int (nI k)), (3, .int (nI 1))], [.int (nI 1), .int (nI k), .int (nI c), .ref 48], u1)) rfl ?_
  refine x_callV [.int (nI c), .int (nI k), .int (nI 1)] rfl cv_R_chanceOf.1 lk_7_310 cv_R_chanceOf.2.1 cv_R_chanceOf.2.2.1 rfl cv_R_chanceOf.2.2.2.1 rfl rfl (Nat.le_of_ble_eq_true rfl) (by decide) cv_R_chanceOf.2.2.2.2 (m_chanceOf1 u1 T n b n' b' (hL.stay hQu1) hto c k hc hk) ?_
  rintro r u2 ⟨hr, hB, hqu2⟩
  rw [hr]
  clear hr r
  have hQu2 : QM S u2 := hQu1.tr hqu2
  refine run_ok 1 (c' := (40, [(0, .ref 48), (1, .int (nI c)), (2, .int (nI k)), (3, .int (nI 1))], [.long (lN (2 ^ (4 * tne T - hlv (chs T c k (2 ^ tne T)) (4 * tne T) 0)))], u2)) rfl ?_
  exact x_ret (r := some (.long (lN (2 ^ (4 * tne T - hlv (chs T c k (2 ^ tne T)) (4 * tne T) 0))))) rfl rfl trivial ⟨rfl, hQu2⟩ rfl

set_option maxHeartbeats 2000000 in
theorem m_chance_bad (S : ST) (T : TD) (n : Nat) (b : Nat → Nat) (n' : Nat) (b' : Nat → Nat) (hL : ML T n b n' b' S) (hto : tok T) (x y z : Int32) (hbad : ¬ ((0 ≤ x ∧ x < nI 17) ∧ (0 ≤ y ∧ y < nI (tnb T)) ∧ (0 ≤ z ∧ z < nI 2))) : EX me_R_chance 8 [.ref 48, .int x, .int y, .int z] S (fun r u => r = some (.long ((-9223372036854775806))) ∧ QM S u) := by
  refine EX.of mok_R_chance (Nat.le_of_ble_eq_true rfl) ?_
  refine run_ok 3 (c' := (4, [(0, .ref 48), (1, .int x), (2, .int y), (3, .int z)], [.int (nI 16), .int (nI 0), .int x], S)) rfl ?_
  refine x_callS [.int x, .int (nI 0), .int (nI 16)] rfl cs_R_in.1 lk_7_115 cs_R_in.2.1 rfl rfl (Nat.le_of_ble_eq_true rfl) (by decide) cs_R_in.2.2 (m_in S (x) (nI 0) (nI 16)) ?_
  rintro r u ⟨hr, hu⟩
  rw [hr, hu]
  clear hr hu r u
  refine x_top (v' := b2 (0 ≤ x ∧ x < nI 17)) (b2_c (and_congr Iff.rfl (le_nI (n := 16) (by decide)))) ?_
  refine x_ifB_eq 35 rfl rfl (fun h7 => ?_) (fun h7 => ?_)
  · refine run_ok 1 (c' := (37, [(0, .ref 48), (1, .int x), (2, .int y), (3, .int z)], [.int (-2)], S)) rfl ?_
    refine x_callS [.int (-2)] rfl cs_R_no.1 lk_7_314 cs_R_no.2.1 rfl rfl (Nat.le_of_ble_eq_true rfl) (by decide) cs_R_no.2.2 (m_no2 S) ?_
    rintro r z ⟨hr, hu⟩
    rw [hr, hu]
    clear hr hu r z
    exact x_ret (r := some (.long (-9223372036854775806))) rfl rfl trivial ⟨rfl, QM.rf⟩ rfl
  · refine run_ok 2 (c' := (12, [(0, .ref 48), (1, .int x), (2, .int y), (3, .int z)], [.int y, .ref 48], S)) rfl ?_
    refine x_callV [.int y] rfl cv_R_isBoat.1 lk_7_163 cv_R_isBoat.2.1 cv_R_isBoat.2.2.1 rfl cv_R_isBoat.2.2.2.1 rfl rfl (Nat.le_of_ble_eq_true rfl) (by decide) cv_R_isBoat.2.2.2.2 (m_isBoat S T n b n' b' (hL.stay QM.rf) hto (y)) ?_
    rintro r u1 ⟨hr, hRu1, hqu1⟩
    rw [hr]
    clear hr r
    have hQu1 : QM S u1 := QM.rf.tr hqu1
    refine x_ifB_eq 35 rfl rfl (fun h15 => ?_) (fun h15 => ?_)
    · refine run_ok 1 (c' := (37, [(0, .ref 48), (1, .int x), (2, .int y), (3, .int z)], [.int (-2)], u1)) rfl ?_
      refine x_callS [.int (-2)] rfl cs_R_no.1 lk_7_314 cs_R_no.2.1 rfl rfl (Nat.le_of_ble_eq_true rfl) (by decide) cs_R_no.2.2 (m_no2 u1) ?_
      rintro r z ⟨hr, hu⟩
      rw [hr, hu]
      clear hr hu r z
      exact x_ret (r := some (.long (-9223372036854775806))) rfl rfl trivial ⟨rfl, hQu1⟩ rfl
    · refine run_ok 1 (c' := (19, [(0, .ref 48), (1, .int x), (2, .int y), (3, .int z)], [.int z], u1)) rfl ?_
      refine x_callS [.int z] rfl cs_R_isTwo.1 lk_7_241 cs_R_isTwo.2.1 rfl rfl (Nat.le_of_ble_eq_true rfl) (by decide) cs_R_isTwo.2.2 (m_isTwo u1 (z)) ?_
      rintro r u ⟨hr, hu⟩
      rw [hr, hu]
      clear hr hu r u
      refine x_ifB_eq 35 rfl rfl (fun h22 => ?_) (fun h22 => ?_)
      · refine run_ok 1 (c' := (37, [(0, .ref 48), (1, .int x), (2, .int y), (3, .int z)], [.int (-2)], u1)) rfl ?_
        refine x_callS [.int (-2)] rfl cs_R_no.1 lk_7_314 cs_R_no.2.1 rfl rfl (Nat.le_of_ble_eq_true rfl) (by decide) cs_R_no.2.2 (m_no2 u1) ?_
        rintro r z ⟨hr, hu⟩
        rw [hr, hu]
        clear hr hu r z
        exact x_ret (r := some (.long (-9223372036854775806))) rfl rfl trivial ⟨rfl, hQu1⟩ rfl
      · exact absurd ⟨h7, h15, h22⟩ hbad

/-- the events drawn so far -/
def DI (T : TD) (x : Int32) (c i : Nat) (u : ST) : Prop := rh u 52 64 (th T) ∧ rh u 53 (tnb T) (tso T) ∧ rh u 54 (tnb T) (tbu T) ∧ rh u 55 (tnb T) (tla T) ∧ rh u 56 (tnb T) (tst T) ∧ rh u 60 i (dkd x) ∧ rh u 61 i (dwk x) ∧ rh u 62 i (dbt x (tnb T)) ∧ u.1 48 5 = nI (tnb T) ∧ u.1 48 14 = nI c ∧ u.1 48 18 = nI (tlo T)
theorem rh.one {u : ST} {k i v : Nat} {f : Nat → Nat} (h : rh u k i f) (hv : v = f i) : rh (pt u k i (nI v)) k (i + 1) f := by
  intro j hj
  rw [pt_at]
  unfold upd
  split
  · rename_i e; rw [e, hv]
  · exact h j (by omega)
theorem DI.next {T : TD} {x : Int32} {c i : Nat} {u : ST} (h : DI T x c i u) : DI T x c (i + 1) (pt (pt (pt u 60 i (nI (dkd x i))) 61 i (nI (dwk x i))) 62 i (nI (dbt x (tnb T) i))) := by
  obtain ⟨h1, h2, h3, h4, h5, h6, h7, h8, h9, ha, hb⟩ := h
  exact ⟨((h1.ne (by decide)).ne (by decide)).ne (by decide), ((h2.ne (by decide)).ne (by decide)).ne (by decide), ((h3.ne (by decide)).ne (by decide)).ne (by decide), ((h4.ne (by decide)).ne (by decide)).ne (by decide), ((h5.ne (by decide)).ne (by decide)).ne (by decide), ((h6.one rfl).ne (by decide)).ne (by decide), ((h7.ne (by decide)).one rfl).ne (by decide), ((h8.ne (by decide)).ne (by decide)).one rfl, h9, ha, hb⟩
theorem DI.of {T : TD} {x : Int32} {c : Nat} {u : ST} (hc : (if tnb T = 0 then 0 else c) = c) (h : DI T x c c u) : MT (dec T x c) u := by
  unfold dec
  rw [hc]
  exact h
theorem MT.di {T : TD} {x : Int32} {c : Nat} {u : ST} (h : MT T u) : DI T x c 0 (pt u 48 14 (nI c)) := by
  obtain ⟨h1, h2, h3, h4, h5, h6, h7, h8, h9, ha, hb⟩ := h
  exact ⟨h1.ne (by decide), h2.ne (by decide), h3.ne (by decide), h4.ne (by decide), h5.ne (by decide), fun j hj => absurd hj (Nat.not_lt_zero _), fun j hj => absurd hj (Nat.not_lt_zero _), fun j hj => absurd hj (Nat.not_lt_zero _), h9, rfl, hb⟩
theorem MT.dz {T : TD} {x : Int32} {c : Nat} {u : ST} (h : MT T u) (h0 : tnb T = 0) : MT (dec T x c) (pt u 48 14 (nI 0)) := by
  have q := h.di (x := x) (c := 0)
  unfold dec
  rw [if_pos h0]
  exact q
set_option maxHeartbeats 2000000 in
theorem m_decadesOf0 (S : ST) (T : TD) (n : Nat) (b : Nat → Nat) (n' : Nat) (b' : Nat → Nat) (hL : ML T n b n' b' S) (hto : tok T) (x : Int32) (c : Nat) (hc : c ≤ 8) : EX me_R_decadesOf 7 [.ref 48, .int x, .int (nI c), .int (nI 0)] S (fun r u => r = some (.int (nI (cnt (fun k => decide (vis (vo (dec T x c) 24) k = 2)) (tnb T)))) ∧ QM S u) := by
  refine EX.of mok_R_decadesOf (Nat.le_of_ble_eq_true rfl) ?_
  have n8 := hto.1
  refine run_ok 1 (c' := (1, [(0, .ref 48), (1, .int x), (2, .int (nI c)), (3, .int (nI 0))], [.ref 48], S)) rfl ?_
  refine x_callV [] rfl cv_R_asTold.1 lk_7_220 cv_R_asTold.2.1 cv_R_asTold.2.2.1 rfl cv_R_asTold.2.2.2.1 rfl rfl (Nat.le_of_ble_eq_true rfl) (by decide) cv_R_asTold.2.2.2.2 (m_asTold S T n b n' b' (hL.stay QM.rf) hto) ?_
  rintro r u1 ⟨hr, hTu1, hRu1, hqu1⟩
  rw [hr]
  clear hr r
  have hQu1 : QM S u1 := QM.rf.tr hqu1
  obtain ⟨t1, t2, t3, t4, t5, t6, t7, t8, t9, t10, t11⟩ := id hTu1
  refine run_ok 5 (c' := (12, [(0, .ref 48), (1, .int x), (2, .int (nI c)), (3, .int (nI 0)), (4, .int x)], [.int (u1.1 48 5), .ref 48], u1)) rfl ?_
  refine x_top (v' := nI (tnb T)) t9 ?_
  refine x_ifN_ne 19 rfl rfl (by omega) (fun h12 => ?_) (fun h12 => ?_)
  · refine run_ok 4 (c' := (26, [(0, .ref 48), (1, .int x), (2, .int (nI c)), (3, .int (nI 0)), (4, .int x), (5, .int (nI 0))], [], (pt u1 48 14 (nI c)))) rfl ?_
    refine loop_up (P := fun i => ∀ v : ST, DI T x c i v → QM S v → BX me_R_decadesOf 7 none (fun r u => r = some (.int (nI (cnt (fun k => decide (vis (vo (dec T x c) 24) k = 2)) (tnb T)))) ∧ QM S u) (26, [(0, .ref 48), (1, .int x), (2, .int (nI c)), (3, .int (nI 0)), (4, .int (sdq x i)), (5, .int (nI i))], [], v)) (c) ?_ ?_ 0 (Nat.zero_le _) _ hTu1.di (hQu1.fld (by decide))
    · intro v hI hQv
      refine run_ok 3 (c' := (32, [(0, .ref 48), (1, .int x), (2, .int (nI c)), (3, .int (nI 0)), (4, .int (sdq x c)), (5, .int (nI c))], [.int (v.1 48 14), .int (nI c)], v)) rfl ?_
      refine x_top (v' := nI c) hI.2.2.2.2.2.2.2.2.2.1 ?_
      refine x_icmpN_ge 123 rfl rfl (by omega) (by omega) (fun h32 => ?_) (fun hn => absurd (Nat.le_refl _) hn)
      refine run_ok 1 (c' := (124, [(0, .ref 48), (1, .int x), (2, .int (nI c)), (3, .int (nI 0)), (4, .int (sdq x c)), (5, .int (nI c))], [.ref 48], v)) rfl ?_
      refine x_callV [] rfl cv_R_runs.1 lk_7_223 cv_R_runs.2.1 cv_R_runs.2.2.1 rfl cv_R_runs.2.2.2.1 rfl rfl (Nat.le_of_ble_eq_true rfl) (by decide) cv_R_runs.2.2.2.2 (m_runs v (dec T x c) (DI.of (if_neg h12) hI) (tok_dec hto x hc)) ?_
      rintro r u2 ⟨hr, hMu2, hCu2, hTu2, hfu2, h8u2, h2u2⟩
      rw [hr]
      clear hr r
      have hQu2 : QM S u2 := hQv.tr (QM.of hfu2 h8u2 h2u2 (by decide) (by decide))
      refine run_ok 3 (c' := (131, [(0, .ref 48), (1, .int x), (2, .int (nI c)), (3, .int (nI 0)), (4, .int (sdq x c)), (5, .int (nI c))], [.int (nI 0), .int (nI 23), .ref 48], u2)) rfl ?_
      refine x_ifN_ne 138 rfl rfl (by omega) (fun hn => absurd hn (by decide)) (fun _ => ?_)
      refine run_ok 2 (c' := (139, [(0, .ref 48), (1, .int x), (2, .int (nI c)), (3, .int (nI 0)), (4, .int (sdq x c)), (5, .int (nI c))], [.int (nI 2), .int (nI 23), .ref 48], u2)) rfl ?_
      refine x_callV [.int (nI 23), .int (nI 2)] rfl cv_R_manyAt.1 lk_7_235 cv_R_manyAt.2.1 cv_R_manyAt.2.2.1 rfl cv_R_manyAt.2.2.2.1 rfl rfl (Nat.le_of_ble_eq_true rfl) (by decide) cv_R_manyAt.2.2.2.2 (m_manyAt u2 (dec T x c) hTu2 hCu2 (tok_dec hto x hc) 23 2 (by decide) (by decide)) ?_
      rintro r z ⟨hr, hu⟩
      rw [hr, hu]
      clear hr hu r z
      exact x_ret (r := some (.int (nI (cnt (fun k => decide (vis (vo (dec T x c) 24) k = 2)) (tnb T))))) rfl rfl trivial ⟨rfl, hQu2⟩ rfl
    · intro i hi ih v hI hQv
      have q1 := lot_lt (nsd (sdq x i))
      have q2 := lot_lt (nsd (nsd (sdq x i)))
      have q3 := lot_lt (nsd (nsd (nsd (sdq x i))))
      refine run_ok 3 (c' := (32, [(0, .ref 48), (1, .int x), (2, .int (nI c)), (3, .int (nI 0)), (4, .int (sdq x i)), (5, .int (nI i))], [.int (v.1 48 14), .int (nI i)], v)) rfl ?_
      refine x_top (v' := nI c) hI.2.2.2.2.2.2.2.2.2.1 ?_
      refine x_icmpN_ge 123 rfl rfl (by omega) (by omega) (fun hn => absurd hn (show ¬ c ≤ i by omega)) (fun h32 => ?_)
      refine run_ok 5 (c' := (45, [(0, .ref 48), (1, .int x), (2, .int (nI c)), (3, .int (nI 0)), (4, .int (sdq x i)), (5, .int (nI i))], [.int (((nI 1103515245) * (sdq x i)) + (nI 12345))], v)) rfl ?_
      refine x_top (v' := nsd (sdq x i)) rfl ?_
      refine run_ok 7 (c' := (58, [(0, .ref 48), (1, .int x), (2, .int (nI c)), (3, .int (nI 0)), (4, .int (nsd (sdq x i))), (5, .int (nI i))], [.int (((nsd (sdq x i)).toUInt32 >>> ((nI 16).toUInt32 &&& Int32.toUInt32 31)).toInt32), .int (nI i), .ref 60], v)) rfl ?_
      refine x_top (v' := nI (lot (nsd (sdq x i)))) (lot_e _) ?_
      refine run_ok 1 (c' := (59, [(0, .ref 48), (1, .int x), (2, .int (nI c)), (3, .int (nI 0)), (4, .int (nsd (sdq x i))), (5, .int (nI i))], [.int (nI 3), .int (nI (lot (nsd (sdq x i)))), .int (nI i), .ref 60], v)) rfl ?_
      refine x_irem rfl (by decide) ?_
      refine x_top (v' := nI ((lot (nsd (sdq x i))) % 3)) (pk_rem (by omega) (by omega) (by omega)) ?_
      refine x_isN rfl rfl (by decide) (by omega) ?_
      refine run_ok 5 (c' := (71, [(0, .ref 48), (1, .int x), (2, .int (nI c)), (3, .int (nI 0)), (4, .int (nsd (sdq x i))), (5, .int (nI i))], [.int (((nI 1103515245) * (nsd (sdq x i))) + (nI 12345))], (pt v 60 i (nI ((lot (nsd (sdq x i))) % 3))))) rfl ?_
      refine x_top (v' := nsd (nsd (sdq x i))) rfl ?_
      refine run_ok 7 (c' := (84, [(0, .ref 48), (1, .int x), (2, .int (nI c)), (3, .int (nI 0)), (4, .int (nsd (nsd (sdq x i)))), (5, .int (nI i))], [.int (((nsd (nsd (sdq x i))).toUInt32 >>> ((nI 16).toUInt32 &&& Int32.toUInt32 31)).toInt32), .int (nI i), .ref 61], (pt v 60 i (nI ((lot (nsd (sdq x i))) % 3))))) rfl ?_
      refine x_top (v' := nI (lot (nsd (nsd (sdq x i))))) (lot_e _) ?_
      refine run_ok 1 (c' := (86, [(0, .ref 48), (1, .int x), (2, .int (nI c)), (3, .int (nI 0)), (4, .int (nsd (nsd (sdq x i)))), (5, .int (nI i))], [.int (nI 24), .int (nI (lot (nsd (nsd (sdq x i))))), .int (nI i), .ref 61], (pt v 60 i (nI ((lot (nsd (sdq x i))) % 3))))) rfl ?_
      refine x_irem rfl (by decide) ?_
      refine x_top (v' := nI ((lot (nsd (nsd (sdq x i)))) % 24)) (pk_rem (by omega) (by omega) (by omega)) ?_
      refine x_isN rfl rfl (by decide) (by omega) ?_
      refine run_ok 5 (c' := (98, [(0, .ref 48), (1, .int x), (2, .int (nI c)), (3, .int (nI 0)), (4, .int (nsd (nsd (sdq x i)))), (5, .int (nI i))], [.int (((nI 1103515245) * (nsd (nsd (sdq x i)))) + (nI 12345))], (pt (pt v 60 i (nI ((lot (nsd (sdq x i))) % 3))) 61 i (nI ((lot (nsd (nsd (sdq x i)))) % 24))))) rfl ?_
      refine x_top (v' := nsd (nsd (nsd (sdq x i)))) rfl ?_
      refine run_ok 7 (c' := (111, [(0, .ref 48), (1, .int x), (2, .int (nI c)), (3, .int (nI 0)), (4, .int (nsd (nsd (nsd (sdq x i))))), (5, .int (nI i))], [.int (((nsd (nsd (nsd (sdq x i)))).toUInt32 >>> ((nI 16).toUInt32 &&& Int32.toUInt32 31)).toInt32), .int (nI i), .ref 62], (pt (pt v 60 i (nI ((lot (nsd (sdq x i))) % 3))) 61 i (nI ((lot (nsd (nsd (sdq x i)))) % 24))))) rfl ?_
      refine x_top (v' := nI (lot (nsd (nsd (nsd (sdq x i)))))) (lot_e _) ?_
      refine run_ok 2 (c' := (115, [(0, .ref 48), (1, .int x), (2, .int (nI c)), (3, .int (nI 0)), (4, .int (nsd (nsd (nsd (sdq x i))))), (5, .int (nI i))], [.int (v.1 48 5), .int (nI (lot (nsd (nsd (nsd (sdq x i)))))), .int (nI i), .ref 62], (pt (pt v 60 i (nI ((lot (nsd (sdq x i))) % 3))) 61 i (nI ((lot (nsd (nsd (sdq x i)))) % 24))))) rfl ?_
      refine x_top (v' := nI (tnb T)) hI.2.2.2.2.2.2.2.2.1 ?_
      refine x_irem rfl (nI_ne0 (by omega) (by omega)) ?_
      refine x_top (v' := nI ((lot (nsd (nsd (nsd (sdq x i))))) % (tnb T))) (pk_rem (by omega) (by omega) (by omega)) ?_
      refine x_isN rfl rfl (by decide) (by omega) ?_
      refine run_ok 1 (c' := (120, [(0, .ref 48), (1, .int x), (2, .int (nI c)), (3, .int (nI 0)), (4, .int (nsd (nsd (nsd (sdq x i))))), (5, .int (nI i + nI 1))], [], (pt (pt (pt v 60 i (nI ((lot (nsd (sdq x i))) % 3))) 61 i (nI ((lot (nsd (nsd (sdq x i)))) % 24))) 62 i (nI ((lot (nsd (nsd (nsd (sdq x i))))) % (tnb T)))))) rfl ?_
      rw [nI_add i 1]
      refine run_ok 1 (c' := (26, [(0, .ref 48), (1, .int x), (2, .int (nI c)), (3, .int (nI 0)), (4, .int (nsd (nsd (nsd (sdq x i))))), (5, .int (nI (i + 1)))], [], (pt (pt (pt v 60 i (nI ((lot (nsd (sdq x i))) % 3))) 61 i (nI ((lot (nsd (nsd (sdq x i)))) % 24))) 62 i (nI ((lot (nsd (nsd (nsd (sdq x i))))) % (tnb T)))))) rfl ?_
      refine x_less [0, 1, 2, 3, 4, 5] rfl ?_
      exact ih _ (DI.next hI) (((hQv.cel (by decide) (by decide)).cel (by decide) (by decide)).cel (by decide) (by decide))
  · refine run_ok 5 (c' := (26, [(0, .ref 48), (1, .int x), (2, .int (nI c)), (3, .int (nI 0)), (4, .int x), (5, .int (nI 0))], [], (pt u1 48 14 (nI 0)))) rfl ?_
    refine run_ok 3 (c' := (32, [(0, .ref 48), (1, .int x), (2, .int (nI c)), (3, .int (nI 0)), (4, .int x), (5, .int (nI 0))], [.int (nI 0), .int (nI 0)], (pt u1 48 14 (nI 0)))) rfl ?_
    refine x_icmpN_ge 123 rfl rfl (by omega) (by omega) (fun _ => ?_) (fun hn => absurd hn (by decide))
    refine run_ok 1 (c' := (124, [(0, .ref 48), (1, .int x), (2, .int (nI c)), (3, .int (nI 0)), (4, .int x), (5, .int (nI 0))], [.ref 48], (pt u1 48 14 (nI 0)))) rfl ?_
    refine x_callV [] rfl cv_R_runs.1 lk_7_223 cv_R_runs.2.1 cv_R_runs.2.2.1 rfl cv_R_runs.2.2.2.1 rfl rfl (Nat.le_of_ble_eq_true rfl) (by decide) cv_R_runs.2.2.2.2 (m_runs (pt u1 48 14 (nI 0)) (dec T x c) (MT.dz hTu1 h12) (tok_dec hto x hc)) ?_
    rintro r u3 ⟨hr, hMu3, hCu3, hTu3, hfu3, h8u3, h2u3⟩
    rw [hr]
    clear hr r
    have hQu3 : QM S u3 := (hQu1.fld (by decide)).tr (QM.of hfu3 h8u3 h2u3 (by decide) (by decide))
    refine run_ok 3 (c' := (131, [(0, .ref 48), (1, .int x), (2, .int (nI c)), (3, .int (nI 0)), (4, .int x), (5, .int (nI 0))], [.int (nI 0), .int (nI 23), .ref 48], u3)) rfl ?_
    refine x_ifN_ne 138 rfl rfl (by omega) (fun hn => absurd hn (by decide)) (fun _ => ?_)
    refine run_ok 2 (c' := (139, [(0, .ref 48), (1, .int x), (2, .int (nI c)), (3, .int (nI 0)), (4, .int x), (5, .int (nI 0))], [.int (nI 2), .int (nI 23), .ref 48], u3)) rfl ?_
    refine x_callV [.int (nI 23), .int (nI 2)] rfl cv_R_manyAt.1 lk_7_235 cv_R_manyAt.2.1 cv_R_manyAt.2.2.1 rfl cv_R_manyAt.2.2.2.1 rfl rfl (Nat.le_of_ble_eq_true rfl) (by decide) cv_R_manyAt.2.2.2.2 (m_manyAt u3 (dec T x c) hTu3 hCu3 (tok_dec hto x hc) 23 2 (by decide) (by decide)) ?_
    rintro r z ⟨hr, hu⟩
    rw [hr, hu]
    clear hr hu r z
    exact x_ret (r := some (.int (nI (cnt (fun k => decide (vis (vo (dec T x c) 24) k = 2)) (tnb T))))) rfl rfl trivial ⟨rfl, hQu3⟩ rfl

set_option maxHeartbeats 2000000 in
theorem m_decades_ok0 (S : ST) (T : TD) (n : Nat) (b : Nat → Nat) (n' : Nat) (b' : Nat → Nat) (hL : ML T n b n' b' S) (hto : tok T) (x : Int32) (c : Nat) (hc : c ≤ 8) : EX me_R_decades 8 [.ref 48, .int x, .int (nI c), .int (nI 0)] S (fun r u => r = some (.int (nI (cnt (fun k => decide (vis (vo (dec T x c) 24) k = 2)) (tnb T)))) ∧ QM S u) := by
  refine EX.of mok_R_decades (Nat.le_of_ble_eq_true rfl) ?_
  refine run_ok 3 (c' := (4, [(0, .ref 48), (1, .int x), (2, .int (nI c)), (3, .int (nI 0))], [.int (nI 8), .int (nI 0), .int (nI c)], S)) rfl ?_
  refine x_callS [.int (nI c), .int (nI 0), .int (nI 8)] rfl cs_R_in.1 lk_7_115 cs_R_in.2.1 rfl rfl (Nat.le_of_ble_eq_true rfl) (by decide) cs_R_in.2.2 (m_in S (nI c) (nI 0) (nI 8)) ?_
  rintro r u ⟨hr, hu⟩
  rw [hr, hu]
  clear hr hu r u
  refine x_top (v' := b2 (0 ≤ nI c ∧ nI c < nI 9)) (b2_c (and_congr Iff.rfl (le_nI (n := 8) (by decide)))) ?_
  refine x_ifB_eq 27 rfl rfl (fun hn => absurd hn (fun z => z (inr_t (by omega) (by decide)))) (fun h7 => ?_)
  refine run_ok 1 (c' := (11, [(0, .ref 48), (1, .int x), (2, .int (nI c)), (3, .int (nI 0))], [.int (nI 0)], S)) rfl ?_
  refine x_callS [.int (nI 0)] rfl cs_R_isTwo.1 lk_7_241 cs_R_isTwo.2.1 rfl rfl (Nat.le_of_ble_eq_true rfl) (by decide) cs_R_isTwo.2.2 (m_isTwo S (nI 0)) ?_
  rintro r u ⟨hr, hu⟩
  rw [hr, hu]
  clear hr hu r u
  refine x_ifB_eq 27 rfl rfl (fun hn => absurd hn (fun z => z (inr_t (by decide) (by decide)))) (fun h14 => ?_)
  refine run_ok 4 (c' := (21, [(0, .ref 48), (1, .int x), (2, .int (nI c)), (3, .int (nI 0))], [.int (nI 0), .int (nI c), .int x, .ref 48], S)) rfl ?_
  refine x_callV [.int x, .int (nI c), .int (nI 0)] rfl cv_R_decadesOf.1 lk_7_319 cv_R_decadesOf.2.1 cv_R_decadesOf.2.2.1 rfl cv_R_decadesOf.2.2.2.1 rfl rfl (Nat.le_of_ble_eq_true rfl) (by decide) cv_R_decadesOf.2.2.2.2 (m_decadesOf0 S T n b n' b' (hL.stay QM.rf) hto x c hc) ?_
  rintro r u1 ⟨hr, hqu1⟩
  rw [hr]
  clear hr r
  have hQu1 : QM S u1 := QM.rf.tr hqu1
  refine run_ok 1 (c' := (29, [(0, .ref 48), (1, .int x), (2, .int (nI c)), (3, .int (nI 0))], [.int (nI (cnt (fun k => decide (vis (vo (dec T x c) 24) k = 2)) (tnb T)))], u1)) rfl ?_
  exact x_ret (r := some (.int (nI (cnt (fun k => decide (vis (vo (dec T x c) 24) k = 2)) (tnb T))))) rfl rfl trivial ⟨rfl, hQu1⟩ rfl

set_option maxHeartbeats 2000000 in
theorem m_decadesOf1 (S : ST) (T : TD) (n : Nat) (b : Nat → Nat) (n' : Nat) (b' : Nat → Nat) (hL : ML T n b n' b' S) (hto : tok T) (x : Int32) (c : Nat) (hc : c ≤ 8) : EX me_R_decadesOf 7 [.ref 48, .int x, .int (nI c), .int (nI 1)] S (fun r u => r = some (.int (nI (cnt (fun k => decide (vis (vo (dec T x c) 24) k = 1)) (tnb T)))) ∧ QM S u) := by
  refine EX.of mok_R_decadesOf (Nat.le_of_ble_eq_true rfl) ?_
  have n8 := hto.1
  refine run_ok 1 (c' := (1, [(0, .ref 48), (1, .int x), (2, .int (nI c)), (3, .int (nI 1))], [.ref 48], S)) rfl ?_
  refine x_callV [] rfl cv_R_asTold.1 lk_7_220 cv_R_asTold.2.1 cv_R_asTold.2.2.1 rfl cv_R_asTold.2.2.2.1 rfl rfl (Nat.le_of_ble_eq_true rfl) (by decide) cv_R_asTold.2.2.2.2 (m_asTold S T n b n' b' (hL.stay QM.rf) hto) ?_
  rintro r u1 ⟨hr, hTu1, hRu1, hqu1⟩
  rw [hr]
  clear hr r
  have hQu1 : QM S u1 := QM.rf.tr hqu1
  obtain ⟨t1, t2, t3, t4, t5, t6, t7, t8, t9, t10, t11⟩ := id hTu1
  refine run_ok 5 (c' := (12, [(0, .ref 48), (1, .int x), (2, .int (nI c)), (3, .int (nI 1)), (4, .int x)], [.int (u1.1 48 5), .ref 48], u1)) rfl ?_
  refine x_top (v' := nI (tnb T)) t9 ?_
  refine x_ifN_ne 19 rfl rfl (by omega) (fun h12 => ?_) (fun h12 => ?_)
  · refine run_ok 4 (c' := (26, [(0, .ref 48), (1, .int x), (2, .int (nI c)), (3, .int (nI 1)), (4, .int x), (5, .int (nI 0))], [], (pt u1 48 14 (nI c)))) rfl ?_
    refine loop_up (P := fun i => ∀ v : ST, DI T x c i v → QM S v → BX me_R_decadesOf 7 none (fun r u => r = some (.int (nI (cnt (fun k => decide (vis (vo (dec T x c) 24) k = 1)) (tnb T)))) ∧ QM S u) (26, [(0, .ref 48), (1, .int x), (2, .int (nI c)), (3, .int (nI 1)), (4, .int (sdq x i)), (5, .int (nI i))], [], v)) (c) ?_ ?_ 0 (Nat.zero_le _) _ hTu1.di (hQu1.fld (by decide))
    · intro v hI hQv
      refine run_ok 3 (c' := (32, [(0, .ref 48), (1, .int x), (2, .int (nI c)), (3, .int (nI 1)), (4, .int (sdq x c)), (5, .int (nI c))], [.int (v.1 48 14), .int (nI c)], v)) rfl ?_
      refine x_top (v' := nI c) hI.2.2.2.2.2.2.2.2.2.1 ?_
      refine x_icmpN_ge 123 rfl rfl (by omega) (by omega) (fun h32 => ?_) (fun hn => absurd (Nat.le_refl _) hn)
      refine run_ok 1 (c' := (124, [(0, .ref 48), (1, .int x), (2, .int (nI c)), (3, .int (nI 1)), (4, .int (sdq x c)), (5, .int (nI c))], [.ref 48], v)) rfl ?_
      refine x_callV [] rfl cv_R_runs.1 lk_7_223 cv_R_runs.2.1 cv_R_runs.2.2.1 rfl cv_R_runs.2.2.2.1 rfl rfl (Nat.le_of_ble_eq_true rfl) (by decide) cv_R_runs.2.2.2.2 (m_runs v (dec T x c) (DI.of (if_neg h12) hI) (tok_dec hto x hc)) ?_
      rintro r u2 ⟨hr, hMu2, hCu2, hTu2, hfu2, h8u2, h2u2⟩
      rw [hr]
      clear hr r
      have hQu2 : QM S u2 := hQv.tr (QM.of hfu2 h8u2 h2u2 (by decide) (by decide))
      refine run_ok 3 (c' := (131, [(0, .ref 48), (1, .int x), (2, .int (nI c)), (3, .int (nI 1)), (4, .int (sdq x c)), (5, .int (nI c))], [.int (nI 1), .int (nI 23), .ref 48], u2)) rfl ?_
      refine x_ifN_ne 138 rfl rfl (by omega) (fun _ => ?_) (fun hn => absurd hn (by decide))
      refine run_ok 1 (c' := (139, [(0, .ref 48), (1, .int x), (2, .int (nI c)), (3, .int (nI 1)), (4, .int (sdq x c)), (5, .int (nI c))], [.int (nI 1), .int (nI 23), .ref 48], u2)) rfl ?_
      refine x_callV [.int (nI 23), .int (nI 1)] rfl cv_R_manyAt.1 lk_7_235 cv_R_manyAt.2.1 cv_R_manyAt.2.2.1 rfl cv_R_manyAt.2.2.2.1 rfl rfl (Nat.le_of_ble_eq_true rfl) (by decide) cv_R_manyAt.2.2.2.2 (m_manyAt u2 (dec T x c) hTu2 hCu2 (tok_dec hto x hc) 23 1 (by decide) (by decide)) ?_
      rintro r z ⟨hr, hu⟩
      rw [hr, hu]
      clear hr hu r z
      exact x_ret (r := some (.int (nI (cnt (fun k => decide (vis (vo (dec T x c) 24) k = 1)) (tnb T))))) rfl rfl trivial ⟨rfl, hQu2⟩ rfl
    · intro i hi ih v hI hQv
      have q1 := lot_lt (nsd (sdq x i))
      have q2 := lot_lt (nsd (nsd (sdq x i)))
      have q3 := lot_lt (nsd (nsd (nsd (sdq x i))))
      refine run_ok 3 (c' := (32, [(0, .ref 48), (1, .int x), (2, .int (nI c)), (3, .int (nI 1)), (4, .int (sdq x i)), (5, .int (nI i))], [.int (v.1 48 14), .int (nI i)], v)) rfl ?_
      refine x_top (v' := nI c) hI.2.2.2.2.2.2.2.2.2.1 ?_
      refine x_icmpN_ge 123 rfl rfl (by omega) (by omega) (fun hn => absurd hn (show ¬ c ≤ i by omega)) (fun h32 => ?_)
      refine run_ok 5 (c' := (45, [(0, .ref 48), (1, .int x), (2, .int (nI c)), (3, .int (nI 1)), (4, .int (sdq x i)), (5, .int (nI i))], [.int (((nI 1103515245) * (sdq x i)) + (nI 12345))], v)) rfl ?_
      refine x_top (v' := nsd (sdq x i)) rfl ?_
      refine run_ok 7 (c' := (58, [(0, .ref 48), (1, .int x), (2, .int (nI c)), (3, .int (nI 1)), (4, .int (nsd (sdq x i))), (5, .int (nI i))], [.int (((nsd (sdq x i)).toUInt32 >>> ((nI 16).toUInt32 &&& Int32.toUInt32 31)).toInt32), .int (nI i), .ref 60], v)) rfl ?_
      refine x_top (v' := nI (lot (nsd (sdq x i)))) (lot_e _) ?_
      refine run_ok 1 (c' := (59, [(0, .ref 48), (1, .int x), (2, .int (nI c)), (3, .int (nI 1)), (4, .int (nsd (sdq x i))), (5, .int (nI i))], [.int (nI 3), .int (nI (lot (nsd (sdq x i)))), .int (nI i), .ref 60], v)) rfl ?_
      refine x_irem rfl (by decide) ?_
      refine x_top (v' := nI ((lot (nsd (sdq x i))) % 3)) (pk_rem (by omega) (by omega) (by omega)) ?_
      refine x_isN rfl rfl (by decide) (by omega) ?_
      refine run_ok 5 (c' := (71, [(0, .ref 48), (1, .int x), (2, .int (nI c)), (3, .int (nI 1)), (4, .int (nsd (sdq x i))), (5, .int (nI i))], [.int (((nI 1103515245) * (nsd (sdq x i))) + (nI 12345))], (pt v 60 i (nI ((lot (nsd (sdq x i))) % 3))))) rfl ?_
      refine x_top (v' := nsd (nsd (sdq x i))) rfl ?_
      refine run_ok 7 (c' := (84, [(0, .ref 48), (1, .int x), (2, .int (nI c)), (3, .int (nI 1)), (4, .int (nsd (nsd (sdq x i)))), (5, .int (nI i))], [.int (((nsd (nsd (sdq x i))).toUInt32 >>> ((nI 16).toUInt32 &&& Int32.toUInt32 31)).toInt32), .int (nI i), .ref 61], (pt v 60 i (nI ((lot (nsd (sdq x i))) % 3))))) rfl ?_
      refine x_top (v' := nI (lot (nsd (nsd (sdq x i))))) (lot_e _) ?_
      refine run_ok 1 (c' := (86, [(0, .ref 48), (1, .int x), (2, .int (nI c)), (3, .int (nI 1)), (4, .int (nsd (nsd (sdq x i)))), (5, .int (nI i))], [.int (nI 24), .int (nI (lot (nsd (nsd (sdq x i))))), .int (nI i), .ref 61], (pt v 60 i (nI ((lot (nsd (sdq x i))) % 3))))) rfl ?_
      refine x_irem rfl (by decide) ?_
      refine x_top (v' := nI ((lot (nsd (nsd (sdq x i)))) % 24)) (pk_rem (by omega) (by omega) (by omega)) ?_
      refine x_isN rfl rfl (by decide) (by omega) ?_
      refine run_ok 5 (c' := (98, [(0, .ref 48), (1, .int x), (2, .int (nI c)), (3, .int (nI 1)), (4, .int (nsd (nsd (sdq x i)))), (5, .int (nI i))], [.int (((nI 1103515245) * (nsd (nsd (sdq x i)))) + (nI 12345))], (pt (pt v 60 i (nI ((lot (nsd (sdq x i))) % 3))) 61 i (nI ((lot (nsd (nsd (sdq x i)))) % 24))))) rfl ?_
      refine x_top (v' := nsd (nsd (nsd (sdq x i)))) rfl ?_
      refine run_ok 7 (c' := (111, [(0, .ref 48), (1, .int x), (2, .int (nI c)), (3, .int (nI 1)), (4, .int (nsd (nsd (nsd (sdq x i))))), (5, .int (nI i))], [.int (((nsd (nsd (nsd (sdq x i)))).toUInt32 >>> ((nI 16).toUInt32 &&& Int32.toUInt32 31)).toInt32), .int (nI i), .ref 62], (pt (pt v 60 i (nI ((lot (nsd (sdq x i))) % 3))) 61 i (nI ((lot (nsd (nsd (sdq x i)))) % 24))))) rfl ?_
      refine x_top (v' := nI (lot (nsd (nsd (nsd (sdq x i)))))) (lot_e _) ?_
      refine run_ok 2 (c' := (115, [(0, .ref 48), (1, .int x), (2, .int (nI c)), (3, .int (nI 1)), (4, .int (nsd (nsd (nsd (sdq x i))))), (5, .int (nI i))], [.int (v.1 48 5), .int (nI (lot (nsd (nsd (nsd (sdq x i)))))), .int (nI i), .ref 62], (pt (pt v 60 i (nI ((lot (nsd (sdq x i))) % 3))) 61 i (nI ((lot (nsd (nsd (sdq x i)))) % 24))))) rfl ?_
      refine x_top (v' := nI (tnb T)) hI.2.2.2.2.2.2.2.2.1 ?_
      refine x_irem rfl (nI_ne0 (by omega) (by omega)) ?_
      refine x_top (v' := nI ((lot (nsd (nsd (nsd (sdq x i))))) % (tnb T))) (pk_rem (by omega) (by omega) (by omega)) ?_
      refine x_isN rfl rfl (by decide) (by omega) ?_
      refine run_ok 1 (c' := (120, [(0, .ref 48), (1, .int x), (2, .int (nI c)), (3, .int (nI 1)), (4, .int (nsd (nsd (nsd (sdq x i))))), (5, .int (nI i + nI 1))], [], (pt (pt (pt v 60 i (nI ((lot (nsd (sdq x i))) % 3))) 61 i (nI ((lot (nsd (nsd (sdq x i)))) % 24))) 62 i (nI ((lot (nsd (nsd (nsd (sdq x i))))) % (tnb T)))))) rfl ?_
      rw [nI_add i 1]
      refine run_ok 1 (c' := (26, [(0, .ref 48), (1, .int x), (2, .int (nI c)), (3, .int (nI 1)), (4, .int (nsd (nsd (nsd (sdq x i))))), (5, .int (nI (i + 1)))], [], (pt (pt (pt v 60 i (nI ((lot (nsd (sdq x i))) % 3))) 61 i (nI ((lot (nsd (nsd (sdq x i)))) % 24))) 62 i (nI ((lot (nsd (nsd (nsd (sdq x i))))) % (tnb T)))))) rfl ?_
      refine x_less [0, 1, 2, 3, 4, 5] rfl ?_
      exact ih _ (DI.next hI) (((hQv.cel (by decide) (by decide)).cel (by decide) (by decide)).cel (by decide) (by decide))
  · refine run_ok 5 (c' := (26, [(0, .ref 48), (1, .int x), (2, .int (nI c)), (3, .int (nI 1)), (4, .int x), (5, .int (nI 0))], [], (pt u1 48 14 (nI 0)))) rfl ?_
    refine run_ok 3 (c' := (32, [(0, .ref 48), (1, .int x), (2, .int (nI c)), (3, .int (nI 1)), (4, .int x), (5, .int (nI 0))], [.int (nI 0), .int (nI 0)], (pt u1 48 14 (nI 0)))) rfl ?_
    refine x_icmpN_ge 123 rfl rfl (by omega) (by omega) (fun _ => ?_) (fun hn => absurd hn (by decide))
    refine run_ok 1 (c' := (124, [(0, .ref 48), (1, .int x), (2, .int (nI c)), (3, .int (nI 1)), (4, .int x), (5, .int (nI 0))], [.ref 48], (pt u1 48 14 (nI 0)))) rfl ?_
    refine x_callV [] rfl cv_R_runs.1 lk_7_223 cv_R_runs.2.1 cv_R_runs.2.2.1 rfl cv_R_runs.2.2.2.1 rfl rfl (Nat.le_of_ble_eq_true rfl) (by decide) cv_R_runs.2.2.2.2 (m_runs (pt u1 48 14 (nI 0)) (dec T x c) (MT.dz hTu1 h12) (tok_dec hto x hc)) ?_
    rintro r u3 ⟨hr, hMu3, hCu3, hTu3, hfu3, h8u3, h2u3⟩
    rw [hr]
    clear hr r
    have hQu3 : QM S u3 := (hQu1.fld (by decide)).tr (QM.of hfu3 h8u3 h2u3 (by decide) (by decide))
    refine run_ok 3 (c' := (131, [(0, .ref 48), (1, .int x), (2, .int (nI c)), (3, .int (nI 1)), (4, .int x), (5, .int (nI 0))], [.int (nI 1), .int (nI 23), .ref 48], u3)) rfl ?_
    refine x_ifN_ne 138 rfl rfl (by omega) (fun _ => ?_) (fun hn => absurd hn (by decide))
    refine run_ok 1 (c' := (139, [(0, .ref 48), (1, .int x), (2, .int (nI c)), (3, .int (nI 1)), (4, .int x), (5, .int (nI 0))], [.int (nI 1), .int (nI 23), .ref 48], u3)) rfl ?_
    refine x_callV [.int (nI 23), .int (nI 1)] rfl cv_R_manyAt.1 lk_7_235 cv_R_manyAt.2.1 cv_R_manyAt.2.2.1 rfl cv_R_manyAt.2.2.2.1 rfl rfl (Nat.le_of_ble_eq_true rfl) (by decide) cv_R_manyAt.2.2.2.2 (m_manyAt u3 (dec T x c) hTu3 hCu3 (tok_dec hto x hc) 23 1 (by decide) (by decide)) ?_
    rintro r z ⟨hr, hu⟩
    rw [hr, hu]
    clear hr hu r z
    exact x_ret (r := some (.int (nI (cnt (fun k => decide (vis (vo (dec T x c) 24) k = 1)) (tnb T))))) rfl rfl trivial ⟨rfl, hQu3⟩ rfl

set_option maxHeartbeats 2000000 in
theorem m_decades_ok1 (S : ST) (T : TD) (n : Nat) (b : Nat → Nat) (n' : Nat) (b' : Nat → Nat) (hL : ML T n b n' b' S) (hto : tok T) (x : Int32) (c : Nat) (hc : c ≤ 8) : EX me_R_decades 8 [.ref 48, .int x, .int (nI c), .int (nI 1)] S (fun r u => r = some (.int (nI (cnt (fun k => decide (vis (vo (dec T x c) 24) k = 1)) (tnb T)))) ∧ QM S u) := by
  refine EX.of mok_R_decades (Nat.le_of_ble_eq_true rfl) ?_
  refine run_ok 3 (c' := (4, [(0, .ref 48), (1, .int x), (2, .int (nI c)), (3, .int (nI 1))], [.int (nI 8), .int (nI 0), .int (nI c)], S)) rfl ?_
  refine x_callS [.int (nI c), .int (nI 0), .int (nI 8)] rfl cs_R_in.1 lk_7_115 cs_R_in.2.1 rfl rfl (Nat.le_of_ble_eq_true rfl) (by decide) cs_R_in.2.2 (m_in S (nI c) (nI 0) (nI 8)) ?_
  rintro r u ⟨hr, hu⟩
  rw [hr, hu]
  clear hr hu r u
  refine x_top (v' := b2 (0 ≤ nI c ∧ nI c < nI 9)) (b2_c (and_congr Iff.rfl (le_nI (n := 8) (by decide)))) ?_
  refine x_ifB_eq 27 rfl rfl (fun hn => absurd hn (fun z => z (inr_t (by omega) (by decide)))) (fun h7 => ?_)
  refine run_ok 1 (c' := (11, [(0, .ref 48), (1, .int x), (2, .int (nI c)), (3, .int (nI 1))], [.int (nI 1)], S)) rfl ?_
  refine x_callS [.int (nI 1)] rfl cs_R_isTwo.1 lk_7_241 cs_R_isTwo.2.1 rfl rfl (Nat.le_of_ble_eq_true rfl) (by decide) cs_R_isTwo.2.2 (m_isTwo S (nI 1)) ?_
  rintro r u ⟨hr, hu⟩
  rw [hr, hu]
  clear hr hu r u
  refine x_ifB_eq 27 rfl rfl (fun hn => absurd hn (fun z => z (inr_t (by decide) (by decide)))) (fun h14 => ?_)
  refine run_ok 4 (c' := (21, [(0, .ref 48), (1, .int x), (2, .int (nI c)), (3, .int (nI 1))], [.int (nI 1), .int (nI c), .int x, .ref 48], S)) rfl ?_
  refine x_callV [.int x, .int (nI c), .int (nI 1)] rfl cv_R_decadesOf.1 lk_7_319 cv_R_decadesOf.2.1 cv_R_decadesOf.2.2.1 rfl cv_R_decadesOf.2.2.2.1 rfl rfl (Nat.le_of_ble_eq_true rfl) (by decide) cv_R_decadesOf.2.2.2.2 (m_decadesOf1 S T n b n' b' (hL.stay QM.rf) hto x c hc) ?_
  rintro r u1 ⟨hr, hqu1⟩
  rw [hr]
  clear hr r
  have hQu1 : QM S u1 := QM.rf.tr hqu1
  refine run_ok 1 (c' := (29, [(0, .ref 48), (1, .int x), (2, .int (nI c)), (3, .int (nI 1))], [.int (nI (cnt (fun k => decide (vis (vo (dec T x c) 24) k = 1)) (tnb T)))], u1)) rfl ?_
  exact x_ret (r := some (.int (nI (cnt (fun k => decide (vis (vo (dec T x c) 24) k = 1)) (tnb T))))) rfl rfl trivial ⟨rfl, hQu1⟩ rfl

set_option maxHeartbeats 2000000 in
theorem m_decades_bad (S : ST) (T : TD) (n : Nat) (b : Nat → Nat) (n' : Nat) (b' : Nat → Nat) (hL : ML T n b n' b' S) (hto : tok T) (x y z : Int32) (hbad : ¬ ((0 ≤ y ∧ y < nI 9) ∧ (0 ≤ z ∧ z < nI 2))) : EX me_R_decades 8 [.ref 48, .int x, .int y, .int z] S (fun r u => r = some (.int ((-2))) ∧ QM S u) := by
  refine EX.of mok_R_decades (Nat.le_of_ble_eq_true rfl) ?_
  refine run_ok 3 (c' := (4, [(0, .ref 48), (1, .int x), (2, .int y), (3, .int z)], [.int (nI 8), .int (nI 0), .int y], S)) rfl ?_
  refine x_callS [.int y, .int (nI 0), .int (nI 8)] rfl cs_R_in.1 lk_7_115 cs_R_in.2.1 rfl rfl (Nat.le_of_ble_eq_true rfl) (by decide) cs_R_in.2.2 (m_in S (y) (nI 0) (nI 8)) ?_
  rintro r u ⟨hr, hu⟩
  rw [hr, hu]
  clear hr hu r u
  refine x_top (v' := b2 (0 ≤ y ∧ y < nI 9)) (b2_c (and_congr Iff.rfl (le_nI (n := 8) (by decide)))) ?_
  refine x_ifB_eq 27 rfl rfl (fun h7 => ?_) (fun h7 => ?_)
  · refine run_ok 1 (c' := (29, [(0, .ref 48), (1, .int x), (2, .int y), (3, .int z)], [.int (-2)], S)) rfl ?_
    exact x_ret (r := some (.int (-2))) rfl rfl trivial ⟨rfl, QM.rf⟩ rfl
  · refine run_ok 1 (c' := (11, [(0, .ref 48), (1, .int x), (2, .int y), (3, .int z)], [.int z], S)) rfl ?_
    refine x_callS [.int z] rfl cs_R_isTwo.1 lk_7_241 cs_R_isTwo.2.1 rfl rfl (Nat.le_of_ble_eq_true rfl) (by decide) cs_R_isTwo.2.2 (m_isTwo S (z)) ?_
    rintro r u ⟨hr, hu⟩
    rw [hr, hu]
    clear hr hu r u
    refine x_ifB_eq 27 rfl rfl (fun h14 => ?_) (fun h14 => ?_)
    · refine run_ok 1 (c' := (29, [(0, .ref 48), (1, .int x), (2, .int y), (3, .int z)], [.int (-2)], S)) rfl ?_
      exact x_ret (r := some (.int (-2))) rfl rfl trivial ⟨rfl, QM.rf⟩ rfl
    · exact absurd ⟨h7, h14⟩ hbad


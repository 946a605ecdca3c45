/-! the model: loved, bitter, wrong, pay, waits -/
theorem bst_cg {p q : Nat → Bool} : ∀ {n : Nat}, (∀ k, k < n → p k = q k) → bst p n = bst q n := by
  intro n
  induction n with
  | zero => intro _; rfl
  | succ n ih =>
    intro h
    show bst p n + (if p n = true then 2 ^ n else 0) = bst q n + (if q n = true then 2 ^ n else 0)
    rw [ih (fun k hk => h k (by omega)), h n (by omega)]
theorem bst_tb (p : Nat → Bool) : ∀ n k, (bst p n).testBit k = (decide (k < n) && p k) := by
  intro n
  induction n with
  | zero => intro k; show Nat.testBit 0 k = _; rw [Nat.zero_testBit]; rfl
  | succ n ih =>
    intro k
    cases hp : p n with
    | false =>
      rw [bst_z hp, ih]
      by_cases e : k = n
      · rw [e, hp, Bool.and_false, Bool.and_false]
      · rw [show decide (k < n) = decide (k < n + 1) from decide_eq_decide.mpr (by omega)]
    | true =>
      rw [bst_s hp, Nat.one_mul, Nat.add_comm]
      by_cases e : k = n
      · rw [e, Nat.testBit_two_pow_add_eq, ih, hp]
        simp
      · by_cases e2 : k < n
        · rw [Nat.testBit_two_pow_add_gt e2, ih]
          rw [show decide (k < n) = decide (k < n + 1) from decide_eq_decide.mpr (by omega)]
        · rw [show decide (k < n + 1) = false from decide_eq_false (by omega), Bool.false_and]
          refine Nat.testBit_lt_two_pow ?_
          have h1 := bst_lt p n
          have h2 : 2 ^ (n + 1) ≤ 2 ^ k := Nat.pow_le_pow_right (by decide) (by omega)
          rw [Nat.pow_succ] at h2
          omega
def lvd (h : Nat → Nat) (n : Nat) : Nat := bst (fun p => decide (∀ j, j < n → (j % 8 = p → h j = 0))) 8
theorem lvd_lt (h : Nat → Nat) (n : Nat) : lvd h n < 256 := bst_lt _ 8
theorem lvd_0 (h : Nat → Nat) : lvd h 0 = 255 := by
  have e : lvd h 0 = bst (fun _ => true) 8 := bst_cg (fun k _ => decide_eq_true (fun j hj => absurd hj (Nat.not_lt_zero _)))
  rw [e]
  rfl
theorem lvd_z {h : Nat → Nat} {n : Nat} (h0 : ¬ 0 < h n) : lvd h (n + 1) = lvd h n := bst_cg (fun k _ => decide_eq_decide.mpr ⟨fun a j hj e => a j (by omega) e, fun a j hj e => by
  by_cases q : j = n
  · rw [q]; omega
  · exact a j (by omega) e⟩)
theorem clr_k : ∀ m, m < 8 → ∀ k, k < 8 → (255 ^^^ 2 ^ m).testBit k = decide (k ≠ m) := by decide
theorem lvd_s {h : Nat → Nat} {n : Nat} (h0 : 0 < h n) : lvd h (n + 1) = lvd h n &&& (255 ^^^ 2 ^ (n % 8)) := by
  refine Nat.eq_of_testBit_eq (fun k => ?_)
  unfold lvd
  rw [Nat.testBit_and, bst_tb, bst_tb]
  by_cases hk : k < 8
  · rw [clr_k _ (by omega) k hk]
    rw [show decide (k < 8) = true from decide_eq_true hk, Bool.true_and, Bool.true_and, ← Bool.decide_and]
    refine decide_eq_decide.mpr ⟨fun a => ⟨fun j hj e => a j (by omega) e, fun e => ?_⟩, fun a j hj e => ?_⟩
    · have := a n (by omega) e.symm
      omega
    · by_cases q : j = n
      · exact absurd (by rw [← e, q]) a.2
      · exact a.1 j (by omega) e
  · rw [show decide (k < 8) = false from decide_eq_false hk]
    simp
theorem wst_8 (h : Nat → Nat) (p : Nat) : ∀ n, n ≤ 8 → (((wst h p n).1 = 8 ↔ ∀ i, i < n → h (8 * i + p) = 0) ∧ ((wst h p n).1 = 8 → (wst h p n).2 = 0)) := by
  intro n
  induction n with
  | zero => intro _; exact ⟨⟨fun _ i hi => absurd hi (Nat.not_lt_zero _), fun _ => rfl⟩, fun _ => rfl⟩
  | succ n ih =>
    intro hn
    have q := ih (by omega)
    unfold wst
    split
    · rename_i e
      refine ⟨⟨fun z => ?_, fun z => ?_⟩, fun z => ?_⟩
      · have z' : n = 8 := z
        omega
      · have := z n (by omega)
        omega
      · have z' : n = 8 := z
        omega
    · rename_i e
      refine ⟨⟨fun z i hi => ?_, fun z => q.1.mpr (fun i hi => z i (by omega))⟩, q.2⟩
      by_cases e2 : i = n
      · have := q.2 z
        rw [e2]
        omega
      · exact q.1.mp z i (by omega)
theorem lvd_64 (h : Nat → Nat) : lvd h 64 = bst (fun p => decide ((wst h p 8).1 = 8)) 8 := bst_cg (fun p hp => decide_eq_decide.mpr (by
  rw [(wst_8 h p 8 (Nat.le_refl 8)).1]
  exact ⟨fun a i hi => a (8 * i + p) (by omega) (by omega), fun a j hj e => by
    have := a (j / 8) (by omega)
    rwa [show 8 * (j / 8) + p = j by omega] at this⟩))
theorem clr_i : ∀ a, a < 256 → ∀ m, m < 8 → nI a &&& ((nI 1 <<< (nI m &&& 31)) ^^^ (-1)) = nI (a &&& (255 ^^^ 2 ^ m)) := by decide +kernel
theorem and_n1 : ∀ a, a < 256 → nI a &&& (-1) = nI a := by decide +kernel
theorem x_lv1 {M : MI} {D : Nat} {sc : Option (Nat × (Nat → Int32))} {Q : Option Value → ST → Prop} {pc : Nat} {a b : Value} {k : Nat} {lv : List (Nat × Value)} {st : List Value} {S : ST} {x y : Nat} (h : x = y) (kk : BX M D sc Q (pc, (0, a) :: (1, .int (nI y)) :: (k, b) :: lv, st, S)) : BX M D sc Q (pc, (0, a) :: (1, .int (nI x)) :: (k, b) :: lv, st, S) := by rw [h]; exact kk
set_option maxHeartbeats 2000000 in
theorem m_lovedOf (S : ST) (T : TD) (n : Nat) (b : Nat → Nat) (n' : Nat) (b' : Nat → Nat) (hL : ML T n b n' b' S) (hto : tok T)  : EX me_R_lovedOf 8 [.ref 48] S (fun r u => r = some (.int (nI (bst (fun p => decide ((wst (vh (vo T 24)) p 8).1 = 8)) 8))) ∧ QM S u) := by
  refine EX.of mok_R_lovedOf (Nat.le_of_ble_eq_true rfl) ?_
  refine run_ok 1 (c' := (1, [(0, .ref 48)], [.ref 48], S)) rfl ?_
  refine x_callV [] rfl cv_R_runsTold.1 lk_7_226 cv_R_runsTold.2.1 cv_R_runsTold.2.2.1 rfl cv_R_runsTold.2.2.2.1 rfl rfl (Nat.le_of_ble_eq_true rfl) (by decide) cv_R_runsTold.2.2.2.2 (m_runsTold S T n b n' b' (hL.stay QM.rf) hto) ?_
  rintro r u1 ⟨hr, hTu1, hMu1, hCu1, hhu1, hqu1⟩
  rw [hr]
  clear hr r
  have hQu1 : QM S u1 := QM.rf.tr hqu1
  obtain ⟨t1, t2, t3, t4, t5, t6, t7, t8, t9, t10, t11⟩ := id hTu1
  obtain ⟨m1, m2, m3, m4, m5, m6, m7⟩ := id hMu1
  refine run_ok 4 (c' := (10, [(0, .ref 48), (1, .int (nI 255)), (2, .int (nI 0))], [], u1)) rfl ?_
  refine x_lv1 (lvd_0 (vh (vo T 24))).symm ?_
  refine loop_up (P := fun i => BX me_R_lovedOf 8 none (fun r u => r = some (.int (nI (bst (fun p => decide ((wst (vh (vo T 24)) p 8).1 = 8)) 8))) ∧ QM S u) (10, [(0, .ref 48), (1, .int (nI (lvd (vh (vo T 24)) i))), (2, .int (nI i))], [], u1)) (64) ?_ ?_ 0 (by omega)
  · skip
    refine run_ok 2 (c' := (13, [(0, .ref 48), (1, .int (nI (lvd (vh (vo T 24)) 64))), (2, .int (nI 64))], [.int (nI 64), .int (nI 64)], u1)) rfl ?_
    refine x_icmpN_ge 46 rfl rfl (by omega) (by omega) (fun h13 => ?_) (fun hn => absurd (Nat.le_refl _) hn)
    refine run_ok 1 (c' := (47, [(0, .ref 48), (1, .int (nI (lvd (vh (vo T 24)) 64))), (2, .int (nI 64))], [.int (nI (lvd (vh (vo T 24)) 64))], u1)) rfl ?_
    exact x_ret (r := some (.int (nI (lvd (vh (vo T 24)) 64)))) rfl rfl trivial ⟨by rw [lvd_64], hQu1⟩ rfl
  · intro i hi ih
    have q1 := (vk_vo hto 24 (by omega)).1.1 i (by omega)
    refine run_ok 2 (c' := (13, [(0, .ref 48), (1, .int (nI (lvd (vh (vo T 24)) i))), (2, .int (nI i))], [.int (nI 64), .int (nI i)], u1)) rfl ?_
    refine x_icmpN_ge 46 rfl rfl (by omega) (by omega) (fun hn => absurd hn (show ¬ 64 ≤ i by omega)) (fun h13 => ?_)
    refine run_ok 4 (c' := (22, [(0, .ref 48), (1, .int (nI (lvd (vh (vo T 24)) i))), (2, .int (nI i))], [.int (nI i), .ref 63, .int (nI (lvd (vh (vo T 24)) i))], u1)) rfl ?_
    refine x_iaN (nI (vh (vo T 24) i)) rfl rfl (by decide) (by omega) (m1 i (by omega)) ?_
    refine x_ifN_le 37 rfl rfl (by omega) (fun h23 => ?_) (fun h23 => ?_)
    · refine run_ok 2 (c' := (39, [(0, .ref 48), (1, .int (nI (lvd (vh (vo T 24)) i))), (2, .int (nI i))], [.int ((nI (lvd (vh (vo T 24)) i)) &&& (-1))], u1)) rfl ?_
      refine x_top (v' := nI (lvd (vh (vo T 24)) i)) (and_n1 _ (lvd_lt _ _)) ?_
      refine run_ok 2 (c' := (43, [(0, .ref 48), (1, .int (nI (lvd (vh (vo T 24)) i))), (2, .int (nI i + nI 1))], [], u1)) rfl ?_
      rw [nI_add i 1]
      refine run_ok 1 (c' := (10, [(0, .ref 48), (1, .int (nI (lvd (vh (vo T 24)) i))), (2, .int (nI (i + 1)))], [], u1)) rfl ?_
      refine x_less [0, 1, 2] rfl ?_
      rw [lvd_z (by omega)] at ih
      exact ih
    · refine run_ok 3 (c' := (30, [(0, .ref 48), (1, .int (nI (lvd (vh (vo T 24)) i))), (2, .int (nI i))], [.int (nI 8), .int (nI i), .int (nI 1), .int (nI (lvd (vh (vo T 24)) i))], u1)) rfl ?_
      refine x_irem rfl (by decide) ?_
      refine x_top (v' := nI (i % 8)) (pk_rem (by omega) (by omega) (by omega)) ?_
      refine run_ok 5 (c' := (39, [(0, .ref 48), (1, .int (nI (lvd (vh (vo T 24)) i))), (2, .int (nI i))], [.int ((nI (lvd (vh (vo T 24)) i)) &&& (((nI 1) <<< ((nI (i % 8)) &&& 31)) ^^^ (-1)))], u1)) rfl ?_
      refine x_top (v' := nI (lvd (vh (vo T 24)) i &&& (255 ^^^ 2 ^ (i % 8)))) (clr_i _ (lvd_lt _ _) _ (by omega)) ?_
      refine run_ok 2 (c' := (43, [(0, .ref 48), (1, .int (nI (lvd (vh (vo T 24)) i &&& (255 ^^^ 2 ^ (i % 8))))), (2, .int (nI i + nI 1))], [], u1)) rfl ?_
      rw [nI_add i 1]
      refine run_ok 1 (c' := (10, [(0, .ref 48), (1, .int (nI (lvd (vh (vo T 24)) i &&& (255 ^^^ 2 ^ (i % 8))))), (2, .int (nI (i + 1)))], [], u1)) rfl ?_
      refine x_less [0, 1, 2] rfl ?_
      rw [lvd_s (by omega)] at ih
      exact ih

set_option maxHeartbeats 2000000 in
theorem m_loved (S : ST) (T : TD) (n : Nat) (b : Nat → Nat) (n' : Nat) (b' : Nat → Nat) (hL : ML T n b n' b' S) (hto : tok T)  : EX me_R_loved 9 [.ref 48] S (fun r u => r = some (.int (nI (bst (fun p => decide ((wst (vh (vo T 24)) p 8).1 = 8)) 8))) ∧ QM S u) := by
  refine EX.of mok_R_loved (Nat.le_of_ble_eq_true rfl) ?_
  refine run_ok 1 (c' := (1, [(0, .ref 48)], [.ref 48], S)) rfl ?_
  refine x_callV [] rfl cv_R_lovedOf.1 lk_7_250 cv_R_lovedOf.2.1 cv_R_lovedOf.2.2.1 rfl cv_R_lovedOf.2.2.2.1 rfl rfl (Nat.le_of_ble_eq_true rfl) (by decide) cv_R_lovedOf.2.2.2.2 (m_lovedOf S T n b n' b' (hL.stay QM.rf) hto) ?_
  rintro r u1 ⟨hr, hqu1⟩
  rw [hr]
  clear hr r
  have hQu1 : QM S u1 := QM.rf.tr hqu1
  exact x_ret (r := some (.int (nI (bst (fun p => decide ((wst (vh (vo T 24)) p 8).1 = 8)) 8)))) rfl rfl trivial ⟨rfl, hQu1⟩ rfl

set_option maxHeartbeats 2000000 in
theorem m_hatesAll (S : ST) (h : Nat → Nat) (h63 : rh S 63 64 h) (p : Nat) (hp : p < 8)  : EX me_R_hatesAll 0 [.ref 48, .int (nI p)] S (fun r u => r = some (.int (nI (shs h p 8))) ∧ u = S) := by
  refine EX.of mok_R_hatesAll (Nat.le_of_ble_eq_true rfl) ?_
  refine run_ok 4 (c' := (4, [(0, .ref 48), (1, .int (nI p)), (2, .int (nI 0)), (3, .int (nI 0))], [], S)) rfl ?_
  refine loop_up (P := fun i => BX me_R_hatesAll 0 none (fun r u => r = some (.int (nI (shs h p 8))) ∧ u = S) (4, [(0, .ref 48), (1, .int (nI p)), (2, .int (nI (shs h p i))), (3, .int (nI i))], [], S)) (8) ?_ ?_ 0 (by omega)
  · skip
    refine run_ok 2 (c' := (7, [(0, .ref 48), (1, .int (nI p)), (2, .int (nI (shs h p 8))), (3, .int (nI 8))], [.int (nI 8), .int (nI 8)], S)) rfl ?_
    refine x_icmpN_ge 30 rfl rfl (by omega) (by omega) (fun h7 => ?_) (fun hn => absurd (Nat.le_refl _) hn)
    refine run_ok 1 (c' := (31, [(0, .ref 48), (1, .int (nI p)), (2, .int (nI (shs h p 8))), (3, .int (nI 8))], [.int (nI (shs h p 8))], S)) rfl ?_
    exact x_ret (r := some (.int (nI (shs h p 8)))) rfl rfl trivial ⟨rfl, rfl⟩ rfl
  · intro i hi ih
    refine run_ok 2 (c' := (7, [(0, .ref 48), (1, .int (nI p)), (2, .int (nI (shs h p i))), (3, .int (nI i))], [.int (nI 8), .int (nI i)], S)) rfl ?_
    refine x_icmpN_ge 30 rfl rfl (by omega) (by omega) (fun hn => absurd hn (show ¬ 8 ≤ i by omega)) (fun h7 => ?_)
    refine run_ok 6 (c' := (19, [(0, .ref 48), (1, .int (nI p)), (2, .int (nI (shs h p i))), (3, .int (nI i))], [.int ((nI 8) * (nI p)), .ref 63, .int (nI (shs h p i))], S)) rfl ?_
    refine x_top (v' := nI (8 * p)) (pk_mul _ _) ?_
    refine run_ok 2 (c' := (21, [(0, .ref 48), (1, .int (nI p)), (2, .int (nI (shs h p i))), (3, .int (nI i))], [.int ((nI (8 * p)) + (nI i)), .ref 63, .int (nI (shs h p i))], S)) rfl ?_
    refine x_top (v' := nI ((8 * p) + i)) (nI_add _ _) ?_
    refine x_iaN (nI (h ((8 * p) + i))) rfl rfl (by decide) (by omega) (h63 ((8 * p) + i) (by omega)) ?_
    refine run_ok 1 (c' := (23, [(0, .ref 48), (1, .int (nI p)), (2, .int (nI (shs h p i))), (3, .int (nI i))], [.int ((nI (shs h p i)) + (nI (h ((8 * p) + i))))], S)) rfl ?_
    refine x_top (v' := nI ((shs h p i) + (h ((8 * p) + i)))) (nI_add _ _) ?_
    refine run_ok 2 (c' := (27, [(0, .ref 48), (1, .int (nI p)), (2, .int (nI ((shs h p i) + (h ((8 * p) + i))))), (3, .int (nI i + nI 1))], [], S)) rfl ?_
    rw [nI_add i 1]
    refine run_ok 1 (c' := (4, [(0, .ref 48), (1, .int (nI p)), (2, .int (nI ((shs h p i) + (h ((8 * p) + i))))), (3, .int (nI (i + 1)))], [], S)) rfl ?_
    refine x_less [0, 1, 2, 3] rfl ?_
    exact ih

def bi (f : Nat → Nat) : Nat → Nat
  | 0 => 0
  | n + 1 => if f (bi f n) < f n then n else bi f n
theorem bi_le (f : Nat → Nat) : ∀ n, n ≤ 8 → bi f n < 8 := by
  intro n
  induction n with
  | zero => intro _; show 0 < 8; omega
  | succ n ih =>
    intro hn
    unfold bi
    split
    · omega
    · exact ih (by omega)
theorem bi_1 (f : Nat → Nat) : bi f 1 = 0 := if_neg (Nat.lt_irrefl _)
theorem bi_s {f : Nat → Nat} {n : Nat} (h : f (bi f n) < f n) : bi f (n + 1) = n := if_pos h
theorem bi_z {f : Nat → Nat} {n : Nat} (h : ¬ f (bi f n) < f n) : bi f (n + 1) = bi f n := if_neg h
theorem bi_b (f : Nat → Nat) : ∀ n, n < 8 → bmx f (n + 1) = (bi f (n + 1), f (bi f (n + 1))) := by
  intro n
  induction n with
  | zero =>
    intro _
    rw [bi_1]
    show bup (99, 0) 0 (f 0) = (0, f 0)
    exact if_pos (Or.inl rfl)
  | succ n ih =>
    intro hn
    have e := ih (by omega)
    have q := bi_le f (n + 1) (by omega)
    show bup (bmx f (n + 1)) (n + 1) (f (n + 1)) = _
    rw [e]
    unfold bup
    by_cases h : f (bi f (n + 1)) < f (n + 1)
    · rw [if_pos (Or.inr h), bi_s h]
    · rw [if_neg (by
        intro z
        cases z with
        | inl z => exact absurd (show bi f (n + 1) = 99 from z) (by omega)
        | inr z => exact h z), bi_z h]
set_option maxHeartbeats 2000000 in
theorem m_bitterOf (S : ST) (T : TD) (n : Nat) (b : Nat → Nat) (n' : Nat) (b' : Nat → Nat) (hL : ML T n b n' b' S) (hto : tok T)  : EX me_R_bitterOf 8 [.ref 48] S (fun r u => r = some (.int (whv (bmx (fun p => shs (vh (vo T 24)) p 8) 8).1)) ∧ QM S u) := by
  refine EX.of mok_R_bitterOf (Nat.le_of_ble_eq_true rfl) ?_
  refine run_ok 1 (c' := (1, [(0, .ref 48)], [.ref 48], S)) rfl ?_
  refine x_callV [] rfl cv_R_runsTold.1 lk_7_226 cv_R_runsTold.2.1 cv_R_runsTold.2.2.1 rfl cv_R_runsTold.2.2.2.1 rfl rfl (Nat.le_of_ble_eq_true rfl) (by decide) cv_R_runsTold.2.2.2.2 (m_runsTold S T n b n' b' (hL.stay QM.rf) hto) ?_
  rintro r u1 ⟨hr, hTu1, hMu1, hCu1, hhu1, hqu1⟩
  rw [hr]
  clear hr r
  have hQu1 : QM S u1 := QM.rf.tr hqu1
  obtain ⟨t1, t2, t3, t4, t5, t6, t7, t8, t9, t10, t11⟩ := id hTu1
  obtain ⟨m1, m2, m3, m4, m5, m6, m7⟩ := id hMu1
  refine run_ok 4 (c' := (8, [(0, .ref 48), (1, .int (nI 0)), (2, .int (nI 1))], [], u1)) rfl ?_
  refine x_lv1 (bi_1 (fun p => shs (vh (vo T 24)) p 8)).symm ?_
  refine loop_up (P := fun i => BX me_R_bitterOf 8 none (fun r u => r = some (.int (whv (bmx (fun p => shs (vh (vo T 24)) p 8) 8).1)) ∧ QM S u) (8, [(0, .ref 48), (1, .int (nI (bi (fun p => shs (vh (vo T 24)) p 8) i))), (2, .int (nI i))], [], u1)) (8) ?_ ?_ 1 (by omega)
  · skip
    refine run_ok 2 (c' := (11, [(0, .ref 48), (1, .int (nI (bi (fun p => shs (vh (vo T 24)) p 8) 8))), (2, .int (nI 8))], [.int (nI 8), .int (nI 8)], u1)) rfl ?_
    refine x_icmpN_ge 39 rfl rfl (by omega) (by omega) (fun h11 => ?_) (fun hn => absurd (Nat.le_refl _) hn)
    refine run_ok 1 (c' := (40, [(0, .ref 48), (1, .int (nI (bi (fun p => shs (vh (vo T 24)) p 8) 8))), (2, .int (nI 8))], [.int (nI (bi (fun p => shs (vh (vo T 24)) p 8) 8))], u1)) rfl ?_
    exact x_ret (r := some (.int (nI (bi (fun p => shs (vh (vo T 24)) p 8) 8)))) rfl rfl trivial ⟨by rw [bi_b (fun p => shs (vh (vo T 24)) p 8) 7 (by decide), whv_lt (by have := bi_le (fun p => shs (vh (vo T 24)) p 8) 8 (by decide); exact Nat.lt_trans this (by decide))], hQu1⟩ rfl
  · intro i hi ih
    have q1 := bi_le (fun p => shs (vh (vo T 24)) p 8) i (by omega)
    have q2 := shs_le hi (vk_vo hto 24 (by omega)).1.1 8 (Nat.le_refl 8)
    have q3 := shs_le q1 (vk_vo hto 24 (by omega)).1.1 8 (Nat.le_refl 8)
    refine run_ok 2 (c' := (11, [(0, .ref 48), (1, .int (nI (bi (fun p => shs (vh (vo T 24)) p 8) i))), (2, .int (nI i))], [.int (nI 8), .int (nI i)], u1)) rfl ?_
    refine x_icmpN_ge 39 rfl rfl (by omega) (by omega) (fun hn => absurd hn (show ¬ 8 ≤ i by omega)) (fun h11 => ?_)
    refine run_ok 2 (c' := (16, [(0, .ref 48), (1, .int (nI (bi (fun p => shs (vh (vo T 24)) p 8) i))), (2, .int (nI i))], [.int (nI i), .ref 48], u1)) rfl ?_
    refine x_callV [.int (nI i)] rfl cv_R_hatesAll.1 lk_7_254 cv_R_hatesAll.2.1 cv_R_hatesAll.2.2.1 rfl cv_R_hatesAll.2.2.2.1 rfl rfl (Nat.le_of_ble_eq_true rfl) (by decide) cv_R_hatesAll.2.2.2.2 (m_hatesAll u1 (vh (vo T 24)) m1 i (by omega)) ?_
    rintro r z ⟨hr, hu⟩
    rw [hr, hu]
    clear hr hu r z
    refine run_ok 2 (c' := (21, [(0, .ref 48), (1, .int (nI (bi (fun p => shs (vh (vo T 24)) p 8) i))), (2, .int (nI i))], [.int (nI (bi (fun p => shs (vh (vo T 24)) p 8) i)), .ref 48, .int (nI (shs (vh (vo T 24)) i 8))], u1)) rfl ?_
    refine x_callV [.int (nI (bi (fun p => shs (vh (vo T 24)) p 8) i))] rfl cv_R_hatesAll.1 lk_7_254 cv_R_hatesAll.2.1 cv_R_hatesAll.2.2.1 rfl cv_R_hatesAll.2.2.2.1 rfl rfl (Nat.le_of_ble_eq_true rfl) (by decide) cv_R_hatesAll.2.2.2.2 (m_hatesAll u1 (vh (vo T 24)) m1 (bi (fun p => shs (vh (vo T 24)) p 8) i) (by omega)) ?_
    rintro r z ⟨hr, hu⟩
    rw [hr, hu]
    clear hr hu r z
    refine x_icmpN_le 31 rfl rfl (by omega) (by omega) (fun h24 => ?_) (fun h24 => ?_)
    · refine run_ok 3 (c' := (36, [(0, .ref 48), (1, .int (nI (bi (fun p => shs (vh (vo T 24)) p 8) i))), (2, .int (nI i + nI 1))], [], u1)) rfl ?_
      rw [nI_add i 1]
      refine run_ok 1 (c' := (8, [(0, .ref 48), (1, .int (nI (bi (fun p => shs (vh (vo T 24)) p 8) i))), (2, .int (nI (i + 1)))], [], u1)) rfl ?_
      refine x_less [0, 1, 2] rfl ?_
      rw [bi_z (show ¬ shs (vh (vo T 24)) (bi (fun p => shs (vh (vo T 24)) p 8) i) 8 < shs (vh (vo T 24)) i 8 by omega)] at ih
      exact ih
    · refine run_ok 4 (c' := (36, [(0, .ref 48), (1, .int (nI i)), (2, .int (nI i + nI 1))], [], u1)) rfl ?_
      rw [nI_add i 1]
      refine run_ok 1 (c' := (8, [(0, .ref 48), (1, .int (nI i)), (2, .int (nI (i + 1)))], [], u1)) rfl ?_
      refine x_less [0, 1, 2] rfl ?_
      rw [bi_s (show shs (vh (vo T 24)) (bi (fun p => shs (vh (vo T 24)) p 8) i) 8 < shs (vh (vo T 24)) i 8 by omega)] at ih
      exact ih

set_option maxHeartbeats 2000000 in
theorem m_bitter (S : ST) (T : TD) (n : Nat) (b : Nat → Nat) (n' : Nat) (b' : Nat → Nat) (hL : ML T n b n' b' S) (hto : tok T)  : EX me_R_bitter 9 [.ref 48] S (fun r u => r = some (.int (whv (bmx (fun p => shs (vh (vo T 24)) p 8) 8).1)) ∧ QM S u) := by
  refine EX.of mok_R_bitter (Nat.le_of_ble_eq_true rfl) ?_
  refine run_ok 1 (c' := (1, [(0, .ref 48)], [.ref 48], S)) rfl ?_
  refine x_callV [] rfl cv_R_bitterOf.1 lk_7_257 cv_R_bitterOf.2.1 cv_R_bitterOf.2.2.1 rfl cv_R_bitterOf.2.2.2.1 rfl rfl (Nat.le_of_ble_eq_true rfl) (by decide) cv_R_bitterOf.2.2.2.2 (m_bitterOf S T n b n' b' (hL.stay QM.rf) hto) ?_
  rintro r u1 ⟨hr, hqu1⟩
  rw [hr]
  clear hr r
  have hQu1 : QM S u1 := QM.rf.tr hqu1
  exact x_ret (r := some (.int (whv (bmx (fun p => shs (vh (vo T 24)) p 8) 8).1))) rfl rfl trivial ⟨rfl, hQu1⟩ rfl

def mov (b : Nat × Nat) : Int32 := if b.1 = 99 then (-1) else nI b.2
theorem mov_le {b : Nat × Nat} {l : Nat} (hb : b.2 < 1000) (hl : l < 1000) : nI l ≤ mov b ↔ ¬ (b.1 = 99 ∨ b.2 < l) := by
  unfold mov
  by_cases h : b.1 = 99
  · rw [if_pos h]
    refine ⟨fun z => ?_, fun z => absurd (Or.inl h) z⟩
    exact absurd (Int32.le_trans (show nI 0 ≤ nI l from (nI_leI (by decide) (by omega)).mpr (Nat.zero_le _)) z) (by decide)
  · rw [if_neg h, nI_leI (by omega) (by omega)]
    omega
theorem bup_s {b : Nat × Nat} {n l : Nat} (h : ¬ nI l ≤ mov b) (hb : b.2 < 1000) (hl : l < 1000) : bup b n l = (n, l) := if_pos (Classical.not_not.mp (fun z => h ((mov_le hb hl).mpr z)))
theorem bup_z {b : Nat × Nat} {n l : Nat} (h : nI l ≤ mov b) (hb : b.2 < 1000) (hl : l < 1000) : bup b n l = b := if_neg ((mov_le hb hl).mp h)
theorem wrg_99 (T : TD) (k : Nat) : ∀ n, n ≤ 8 → (wrg T k n).1 = 99 → ∀ j, j < n → j = tbu T k := by
  intro n
  induction n with
  | zero => intro _ _ j hj; exact absurd hj (Nat.not_lt_zero _)
  | succ n ih =>
    intro hn h j hj
    unfold wrg at h
    by_cases e : n = tbu T k
    · rw [if_pos e] at h
      by_cases e2 : j = n
      · rw [e2]; exact e
      · exact ih (by omega) h j (by omega)
    · rw [if_neg e] at h
      unfold bup at h
      split at h
      · have : n = 99 := h
        omega
      · rename_i z
        exact absurd (Or.inl h) z
theorem wrg_ne (T : TD) (k : Nat) : (wrg T k 8).1 ≠ 99 := fun h => by
  have a := wrg_99 T k 8 (Nat.le_refl 8) h 0 (by decide)
  have b := wrg_99 T k 8 (Nat.le_refl 8) h 1 (by decide)
  omega
theorem pyf_ne (T : TD) (k : Nat) : ∀ n, n < 24 → (pyf T k (n + 1)).1 ≠ 99 := by
  intro n hn
  unfold pyf bup
  split
  · show n ≠ 99
    omega
  · rename_i z
    exact fun h => z (Or.inl h)
theorem MT.pth {T : TD} {u : ST} {j x : Nat} (h : MT T u) : MT (wh T (upn (th T) j x)) (pt u 52 j (nI x)) := by
  obtain ⟨h1, h2, h3, h4, h5, h6, h7, h8, h9, ha, hb⟩ := h
  exact ⟨h1.put, h2.ne (by decide), h3.ne (by decide), h4.ne (by decide), h5.ne (by decide), h6.ne (by decide), h7.ne (by decide), h8.ne (by decide), h9, ha, hb⟩
theorem upn_b (f : Nat → Nat) (j x i : Nat) : f i = upn (upn f j x) j (f j) i := by
  unfold upn
  split
  · rename_i e; rw [e]
  · rfl
theorem MT.bth {T : TD} {u : ST} {j x : Nat} (h : MT (wh T (upn (th T) j x)) u) : MT T (pt u 52 j (nI (th T j))) := by
  obtain ⟨h1, h2, h3, h4, h5, h6, h7, h8, h9, ha, hb⟩ := h
  exact ⟨(h1.put).cg (fun i _ => upn_b (th T) j x i), h2.ne (by decide), h3.ne (by decide), h4.ne (by decide), h5.ne (by decide), h6.ne (by decide), h7.ne (by decide), h8.ne (by decide), h9, ha, hb⟩
theorem RC.cel {T : TD} {n : Nat} {u : ST} {k e : Nat} {v : Int32} (h : RC T n u) (hk : k ∉ [68, 69, 70, 71, 72]) : RC T n (pt u k e v) := by
  have q : ∀ c, c ∈ [68, 69, 70, 71, 72] → (pt u k e v).1 c = u.1 c := fun c hc => if_neg (fun z => hk (by rw [← z]; exact hc))
  unfold RC
  rw [q 68 (by decide), q 69 (by decide), q 70 (by decide), q 71 (by decide), q 72 (by decide)]
  exact h
set_option maxHeartbeats 2000000 in
theorem m_wrongOf0 (S : ST) (T : TD) (n : Nat) (b : Nat → Nat) (n' : Nat) (b' : Nat → Nat) (hL : ML T n b n' b' S) (hto : tok T) (k : Nat) (hk : k < tnb T) : EX me_R_wrongOf 7 [.ref 48, .int (nI k), .int (nI 0)] S (fun r u => r = some (.int (whv (wrg T k 8).1)) ∧ QM S u) := by
  refine EX.of mok_R_wrongOf (Nat.le_of_ble_eq_true rfl) ?_
  have n8 := hto.1
  refine run_ok 1 (c' := (1, [(0, .ref 48), (1, .int (nI k)), (2, .int (nI 0))], [.ref 48], S)) rfl ?_
  refine x_callV [] rfl cv_R_asTold.1 lk_7_220 cv_R_asTold.2.1 cv_R_asTold.2.2.1 rfl cv_R_asTold.2.2.2.1 rfl rfl (Nat.le_of_ble_eq_true rfl) (by decide) cv_R_asTold.2.2.2.2 (m_asTold S T n b n' b' (hL.stay QM.rf) hto) ?_
  rintro r u1 ⟨hr, hTu1, hRu1, hqu1⟩
  rw [hr]
  clear hr r
  have hQu1 : QM S u1 := QM.rf.tr hqu1
  obtain ⟨t1, t2, t3, t4, t5, t6, t7, t8, t9, t10, t11⟩ := id hTu1
  refine run_ok 6 (c' := (12, [(0, .ref 48), (1, .int (nI k)), (2, .int (nI 0)), (3, .int (-1)), (4, .int (-1)), (5, .int (nI 0))], [], u1)) rfl ?_
  refine loop_up (P := fun i => ∀ v : ST, MT T v → QM S v → BX me_R_wrongOf 7 none (fun r u => r = some (.int (whv (wrg T k 8).1)) ∧ QM S u) (12, [(0, .ref 48), (1, .int (nI k)), (2, .int (nI 0)), (3, .int (whv (wrg T k i).1)), (4, .int (mov (wrg T k i))), (5, .int (nI i))], [], v)) (8) ?_ ?_ 0 (by omega) _ hTu1 hQu1
  · intro v hI hQv
    refine run_ok 2 (c' := (16, [(0, .ref 48), (1, .int (nI k)), (2, .int (nI 0)), (3, .int (whv (wrg T k 8).1)), (4, .int (mov (wrg T k 8))), (5, .int (nI 8))], [.int (nI 8), .int (nI 8)], v)) rfl ?_
    refine x_icmpN_ge 117 rfl rfl (by omega) (by omega) (fun h16 => ?_) (fun hn => absurd (Nat.le_refl _) hn)
    refine run_ok 1 (c' := (118, [(0, .ref 48), (1, .int (nI k)), (2, .int (nI 0)), (3, .int (whv (wrg T k 8).1)), (4, .int (mov (wrg T k 8))), (5, .int (nI 8))], [.int (nI 0)], v)) rfl ?_
    refine x_ifN_ne 125 rfl rfl (by omega) (fun hn => absurd hn (by decide)) (fun _ => ?_)
    refine run_ok 2 (c' := (127, [(0, .ref 48), (1, .int (nI k)), (2, .int (nI 0)), (3, .int (whv (wrg T k 8).1)), (4, .int (mov (wrg T k 8))), (5, .int (nI 8))], [.int (whv (wrg T k 8).1)], v)) rfl ?_
    exact x_ret (r := some (.int (whv (wrg T k 8).1))) rfl rfl trivial ⟨rfl, hQv⟩ rfl
  · intro i hi ih v hI hQv
    obtain ⟨t1, t2, t3, t4, t5, t6, t7, t8, t9, t10, t11⟩ := id hI
    have q3 := wrg_le T k i (by omega)
    have q4 := (hto.2.2.1 k hk).2.1
    refine run_ok 2 (c' := (16, [(0, .ref 48), (1, .int (nI k)), (2, .int (nI 0)), (3, .int (whv (wrg T k i).1)), (4, .int (mov (wrg T k i))), (5, .int (nI i))], [.int (nI 8), .int (nI i)], v)) rfl ?_
    refine x_icmpN_ge 117 rfl rfl (by omega) (by omega) (fun hn => absurd hn (show ¬ 8 ≤ i by omega)) (fun h16 => ?_)
    refine run_ok 4 (c' := (26, [(0, .ref 48), (1, .int (nI k)), (2, .int (nI 0)), (3, .int (whv (wrg T k i).1)), (4, .int (mov (wrg T k i))), (5, .int (nI i))], [.int (nI k), .ref 54, .int (nI i)], v)) rfl ?_
    refine x_iaN (nI (tbu T k)) rfl rfl (by decide) (by omega) (t3 k (by omega)) ?_
    refine x_icmpN_eq 111 rfl rfl (by omega) (by omega) (fun h27 => ?_) (fun h27 => ?_)
    · refine run_ok 1 (c' := (114, [(0, .ref 48), (1, .int (nI k)), (2, .int (nI 0)), (3, .int (whv (wrg T k i).1)), (4, .int (mov (wrg T k i))), (5, .int (nI i + nI 1))], [], v)) rfl ?_
      rw [nI_add i 1]
      refine run_ok 1 (c' := (12, [(0, .ref 48), (1, .int (nI k)), (2, .int (nI 0)), (3, .int (whv (wrg T k i).1)), (4, .int (mov (wrg T k i))), (5, .int (nI (i + 1)))], [], v)) rfl ?_
      refine x_less [0, 1, 2, 3, 4, 5] rfl ?_
      rw [show wrg T k (i + 1) = wrg T k i from if_pos h27] at ih
      exact ih v hI hQv
    · refine run_ok 3 (c' := (35, [(0, .ref 48), (1, .int (nI k)), (2, .int (nI 0)), (3, .int (whv (wrg T k i).1)), (4, .int (mov (wrg T k i))), (5, .int (nI i))], [.int ((nI 8) * (nI i))], v)) rfl ?_
      refine x_top (v' := nI (8 * i)) (pk_mul _ _) ?_
      refine run_ok 3 (c' := (40, [(0, .ref 48), (1, .int (nI k)), (2, .int (nI 0)), (3, .int (whv (wrg T k i).1)), (4, .int (mov (wrg T k i))), (5, .int (nI i))], [.int (nI k), .ref 54, .int (nI (8 * i))], v)) rfl ?_
      refine x_iaN (nI (tbu T k)) rfl rfl (by decide) (by omega) (t3 k (by omega)) ?_
      refine run_ok 1 (c' := (42, [(0, .ref 48), (1, .int (nI k)), (2, .int (nI 0)), (3, .int (whv (wrg T k i).1)), (4, .int (mov (wrg T k i))), (5, .int (nI i))], [.int ((nI (8 * i)) + (nI (tbu T k)))], v)) rfl ?_
      refine x_top (v' := nI ((8 * i) + (tbu T k))) (nI_add _ _) ?_
      refine run_ok 4 (c' := (50, [(0, .ref 48), (1, .int (nI k)), (2, .int (nI 0)), (3, .int (whv (wrg T k i).1)), (4, .int (mov (wrg T k i))), (5, .int (nI i)), (6, .int (nI ((8 * i) + (tbu T k))))], [.int (nI ((8 * i) + (tbu T k))), .ref 52], v)) rfl ?_
      refine x_iaN (nI (th T ((8 * i) + (tbu T k)))) rfl rfl (by decide) (by omega) (t1 ((8 * i) + (tbu T k)) (by omega)) ?_
      refine run_ok 5 (c' := (60, [(0, .ref 48), (1, .int (nI k)), (2, .int (nI 0)), (3, .int (whv (wrg T k i).1)), (4, .int (mov (wrg T k i))), (5, .int (nI i)), (6, .int (nI ((8 * i) + (tbu T k)))), (7, .int (nI (th T ((8 * i) + (tbu T k)))))], [.int (nI 5), .int (nI ((8 * i) + (tbu T k))), .ref 52], v)) rfl ?_
      refine x_isN rfl rfl (by decide) (by omega) ?_
      refine run_ok 1 (c' := (62, [(0, .ref 48), (1, .int (nI k)), (2, .int (nI 0)), (3, .int (whv (wrg T k i).1)), (4, .int (mov (wrg T k i))), (5, .int (nI i)), (6, .int (nI ((8 * i) + (tbu T k)))), (7, .int (nI (th T ((8 * i) + (tbu T k)))))], [.ref 48], (pt v 52 ((8 * i) + (tbu T k)) (nI 5)))) rfl ?_
      refine x_callV [] rfl cv_R_runs.1 lk_7_223 cv_R_runs.2.1 cv_R_runs.2.2.1 rfl cv_R_runs.2.2.2.1 rfl rfl (Nat.le_of_ble_eq_true rfl) (by decide) cv_R_runs.2.2.2.2 (m_runs (pt v 52 ((8 * i) + (tbu T k)) (nI 5)) (wh T (upn (th T) (8 * i + tbu T k) 5)) hI.pth (tok_wh hto (by decide))) ?_
      rintro r u2 ⟨hr, hMu2, hCu2, hTu2, hfu2, h8u2, h2u2⟩
      rw [hr]
      clear hr r
      have hQu2 : QM S u2 := (hQv.cel (by decide) (by decide)).tr (QM.of hfu2 h8u2 h2u2 (by decide) (by decide))
      refine run_ok 4 (c' := (73, [(0, .ref 48), (1, .int (nI k)), (2, .int (nI 0)), (3, .int (whv (wrg T k i).1)), (4, .int (mov (wrg T k i))), (5, .int (nI i)), (6, .int (nI ((8 * i) + (tbu T k)))), (7, .int (nI (th T ((8 * i) + (tbu T k)))))], [.int (nI (th T ((8 * i) + (tbu T k)))), .int (nI ((8 * i) + (tbu T k))), .ref 52], u2)) rfl ?_
      refine x_isN rfl rfl (by decide) (by omega) ?_
      refine run_ok 2 (c' := (76, [(0, .ref 48), (1, .int (nI k)), (2, .int (nI 0)), (3, .int (whv (wrg T k i).1)), (4, .int (mov (wrg T k i))), (5, .int (nI i)), (6, .int (nI ((8 * i) + (tbu T k)))), (7, .int (nI (th T ((8 * i) + (tbu T k)))))], [.int (nI k), .ref 48], (pt u2 52 ((8 * i) + (tbu T k)) (nI (th T ((8 * i) + (tbu T k))))))) rfl ?_
      refine x_callV [.int (nI k)] rfl cv_R_longNow.1 lk_7_260 cv_R_longNow.2.1 cv_R_longNow.2.2.1 rfl cv_R_longNow.2.2.2.1 rfl rfl (Nat.le_of_ble_eq_true rfl) (by decide) cv_R_longNow.2.2.2.2 (m_longNow (pt u2 52 ((8 * i) + (tbu T k)) (nI (th T ((8 * i) + (tbu T k))))) (wh T (upn (th T) (8 * i + tbu T k) 5)) (RC.cel hCu2 (by decide)) (tok_wh hto (by decide)) k hk) ?_
      rintro r z ⟨hr, hu⟩
      rw [hr, hu]
      clear hr hu r z
      have q5 := lsn_le (wh T (upn (th T) (8 * i + tbu T k) 5)) k 24
      refine run_ok 3 (c' := (85, [(0, .ref 48), (1, .int (nI k)), (2, .int (nI 0)), (3, .int (whv (wrg T k i).1)), (4, .int (mov (wrg T k i))), (5, .int (nI i)), (6, .int (nI ((8 * i) + (tbu T k)))), (7, .int (nI (th T ((8 * i) + (tbu T k))))), (8, .int (nI (lsn (wh T (upn (th T) (8 * i + tbu T k) 5)) 24 k)))], [.int (mov (wrg T k i)), .int (nI (lsn (wh T (upn (th T) (8 * i + tbu T k) 5)) 24 k))], (pt u2 52 ((8 * i) + (tbu T k)) (nI (th T ((8 * i) + (tbu T k))))))) rfl ?_
      refine x_icmp_le 93 rfl rfl (fun h85 => ?_) (fun h85 => ?_)
      · refine run_ok 4 (c' := (99, [(0, .ref 48), (1, .int (nI k)), (2, .int (nI 0)), (3, .int (whv (wrg T k i).1)), (4, .int (mov (wrg T k i))), (5, .int (nI i)), (6, .int (nI ((8 * i) + (tbu T k)))), (7, .int (nI (th T ((8 * i) + (tbu T k))))), (8, .int (nI (lsn (wh T (upn (th T) (8 * i + tbu T k) 5)) 24 k)))], [.int (mov (wrg T k i)), .int (nI (lsn (wh T (upn (th T) (8 * i + tbu T k) 5)) 24 k))], (pt u2 52 ((8 * i) + (tbu T k)) (nI (th T ((8 * i) + (tbu T k))))))) rfl ?_
        refine x_icmp_le 107 rfl rfl (fun h99 => ?_) (fun h99 => ?_)
        · refine run_ok 3 (c' := (114, [(0, .ref 48), (1, .int (nI k)), (2, .int (nI 0)), (3, .int (whv (wrg T k i).1)), (4, .int (mov (wrg T k i))), (5, .int (nI i + nI 1)), (6, .int (nI ((8 * i) + (tbu T k)))), (7, .int (nI (th T ((8 * i) + (tbu T k))))), (8, .int (nI (lsn (wh T (upn (th T) (8 * i + tbu T k) 5)) 24 k)))], [], (pt u2 52 ((8 * i) + (tbu T k)) (nI (th T ((8 * i) + (tbu T k))))))) rfl ?_
          rw [nI_add i 1]
          refine run_ok 1 (c' := (12, [(0, .ref 48), (1, .int (nI k)), (2, .int (nI 0)), (3, .int (whv (wrg T k i).1)), (4, .int (mov (wrg T k i))), (5, .int (nI (i + 1))), (6, .int (nI ((8 * i) + (tbu T k)))), (7, .int (nI (th T ((8 * i) + (tbu T k))))), (8, .int (nI (lsn (wh T (upn (th T) (8 * i + tbu T k) 5)) 24 k)))], [], (pt u2 52 ((8 * i) + (tbu T k)) (nI (th T ((8 * i) + (tbu T k))))))) rfl ?_
          refine x_less [0, 1, 2, 3, 4, 5] rfl ?_
          rw [show wrg T k (i + 1) = wrg T k i from (if_neg h27).trans (bup_z h85 (by omega) (by omega))] at ih
          exact ih _ hTu2.bth (hQu2.cel (by decide) (by decide))
        · refine run_ok 4 (c' := (114, [(0, .ref 48), (1, .int (nI k)), (2, .int (nI 0)), (3, .int (whv (wrg T k i).1)), (4, .int (nI (lsn (wh T (upn (th T) (8 * i + tbu T k) 5)) 24 k))), (5, .int (nI i + nI 1)), (6, .int (nI ((8 * i) + (tbu T k)))), (7, .int (nI (th T ((8 * i) + (tbu T k))))), (8, .int (nI (lsn (wh T (upn (th T) (8 * i + tbu T k) 5)) 24 k)))], [], (pt u2 52 ((8 * i) + (tbu T k)) (nI (th T ((8 * i) + (tbu T k))))))) rfl ?_
          rw [nI_add i 1]
          refine run_ok 1 (c' := (12, [(0, .ref 48), (1, .int (nI k)), (2, .int (nI 0)), (3, .int (whv (wrg T k i).1)), (4, .int (nI (lsn (wh T (upn (th T) (8 * i + tbu T k) 5)) 24 k))), (5, .int (nI (i + 1))), (6, .int (nI ((8 * i) + (tbu T k)))), (7, .int (nI (th T ((8 * i) + (tbu T k))))), (8, .int (nI (lsn (wh T (upn (th T) (8 * i + tbu T k) 5)) 24 k)))], [], (pt u2 52 ((8 * i) + (tbu T k)) (nI (th T ((8 * i) + (tbu T k))))))) rfl ?_
          refine x_less [0, 1, 2, 3, 4, 5] rfl ?_
          exact absurd h85 h99
      · refine run_ok 5 (c' := (99, [(0, .ref 48), (1, .int (nI k)), (2, .int (nI 0)), (3, .int (nI i)), (4, .int (mov (wrg T k i))), (5, .int (nI i)), (6, .int (nI ((8 * i) + (tbu T k)))), (7, .int (nI (th T ((8 * i) + (tbu T k))))), (8, .int (nI (lsn (wh T (upn (th T) (8 * i + tbu T k) 5)) 24 k)))], [.int (mov (wrg T k i)), .int (nI (lsn (wh T (upn (th T) (8 * i + tbu T k) 5)) 24 k))], (pt u2 52 ((8 * i) + (tbu T k)) (nI (th T ((8 * i) + (tbu T k))))))) rfl ?_
        refine x_icmp_le 107 rfl rfl (fun h99 => ?_) (fun h99 => ?_)
        · refine run_ok 3 (c' := (114, [(0, .ref 48), (1, .int (nI k)), (2, .int (nI 0)), (3, .int (nI i)), (4, .int (mov (wrg T k i))), (5, .int (nI i + nI 1)), (6, .int (nI ((8 * i) + (tbu T k)))), (7, .int (nI (th T ((8 * i) + (tbu T k))))), (8, .int (nI (lsn (wh T (upn (th T) (8 * i + tbu T k) 5)) 24 k)))], [], (pt u2 52 ((8 * i) + (tbu T k)) (nI (th T ((8 * i) + (tbu T k))))))) rfl ?_
          rw [nI_add i 1]
          refine run_ok 1 (c' := (12, [(0, .ref 48), (1, .int (nI k)), (2, .int (nI 0)), (3, .int (nI i)), (4, .int (mov (wrg T k i))), (5, .int (nI (i + 1))), (6, .int (nI ((8 * i) + (tbu T k)))), (7, .int (nI (th T ((8 * i) + (tbu T k))))), (8, .int (nI (lsn (wh T (upn (th T) (8 * i + tbu T k) 5)) 24 k)))], [], (pt u2 52 ((8 * i) + (tbu T k)) (nI (th T ((8 * i) + (tbu T k))))))) rfl ?_
          refine x_less [0, 1, 2, 3, 4, 5] rfl ?_
          exact absurd h99 h85
        · refine run_ok 4 (c' := (114, [(0, .ref 48), (1, .int (nI k)), (2, .int (nI 0)), (3, .int (nI i)), (4, .int (nI (lsn (wh T (upn (th T) (8 * i + tbu T k) 5)) 24 k))), (5, .int (nI i + nI 1)), (6, .int (nI ((8 * i) + (tbu T k)))), (7, .int (nI (th T ((8 * i) + (tbu T k))))), (8, .int (nI (lsn (wh T (upn (th T) (8 * i + tbu T k) 5)) 24 k)))], [], (pt u2 52 ((8 * i) + (tbu T k)) (nI (th T ((8 * i) + (tbu T k))))))) rfl ?_
          rw [nI_add i 1]
          refine run_ok 1 (c' := (12, [(0, .ref 48), (1, .int (nI k)), (2, .int (nI 0)), (3, .int (nI i)), (4, .int (nI (lsn (wh T (upn (th T) (8 * i + tbu T k) 5)) 24 k))), (5, .int (nI (i + 1))), (6, .int (nI ((8 * i) + (tbu T k)))), (7, .int (nI (th T ((8 * i) + (tbu T k))))), (8, .int (nI (lsn (wh T (upn (th T) (8 * i + tbu T k) 5)) 24 k)))], [], (pt u2 52 ((8 * i) + (tbu T k)) (nI (th T ((8 * i) + (tbu T k))))))) rfl ?_
          refine x_less [0, 1, 2, 3, 4, 5] rfl ?_
          rw [show wrg T k (i + 1) = (i, lsn (wh T (upn (th T) (8 * i + tbu T k) 5)) 24 k) from (if_neg h27).trans (bup_s h85 (by omega) (by omega))] at ih
          rw [show whv (i, lsn (wh T (upn (th T) (8 * i + tbu T k) 5)) 24 k).1 = nI i from whv_lt (by show i < 99; omega), show mov (i, lsn (wh T (upn (th T) (8 * i + tbu T k) 5)) 24 k) = nI (lsn (wh T (upn (th T) (8 * i + tbu T k) 5)) 24 k) from if_neg (by show ¬ i = 99; omega)] at ih
          exact ih _ hTu2.bth (hQu2.cel (by decide) (by decide))

set_option maxHeartbeats 2000000 in
theorem m_wrong_ok0 (S : ST) (T : TD) (n : Nat) (b : Nat → Nat) (n' : Nat) (b' : Nat → Nat) (hL : ML T n b n' b' S) (hto : tok T) (k : Nat) (hk : k < tnb T) : EX me_R_wrong 8 [.ref 48, .int (nI k), .int (nI 0)] S (fun r u => r = some (.int (whv (wrg T k 8).1)) ∧ QM S u) := by
  refine EX.of mok_R_wrong (Nat.le_of_ble_eq_true rfl) ?_
  have n8 := hto.1
  refine run_ok 2 (c' := (2, [(0, .ref 48), (1, .int (nI k)), (2, .int (nI 0))], [.int (nI k), .ref 48], S)) rfl ?_
  refine x_callV [.int (nI k)] rfl cv_R_isBoat.1 lk_7_163 cv_R_isBoat.2.1 cv_R_isBoat.2.2.1 rfl cv_R_isBoat.2.2.2.1 rfl rfl (Nat.le_of_ble_eq_true rfl) (by decide) cv_R_isBoat.2.2.2.2 (m_isBoat S T n b n' b' (hL.stay QM.rf) hto (nI k)) ?_
  rintro r u1 ⟨hr, hRu1, hqu1⟩
  rw [hr]
  clear hr r
  have hQu1 : QM S u1 := QM.rf.tr hqu1
  refine x_ifB_eq 24 rfl rfl (fun hn => absurd hn (fun z => z (inr_t hk (by omega)))) (fun h5 => ?_)
  refine run_ok 1 (c' := (9, [(0, .ref 48), (1, .int (nI k)), (2, .int (nI 0))], [.int (nI 0)], u1)) rfl ?_
  refine x_callS [.int (nI 0)] rfl cs_R_isTwo.1 lk_7_241 cs_R_isTwo.2.1 rfl rfl (Nat.le_of_ble_eq_true rfl) (by decide) cs_R_isTwo.2.2 (m_isTwo u1 (nI 0)) ?_
  rintro r u ⟨hr, hu⟩
  rw [hr, hu]
  clear hr hu r u
  refine x_ifB_eq 24 rfl rfl (fun hn => absurd hn (fun z => z (inr_t (by decide) (by decide)))) (fun h12 => ?_)
  refine run_ok 3 (c' := (18, [(0, .ref 48), (1, .int (nI k)), (2, .int (nI 0))], [.int (nI 0), .int (nI k), .ref 48], u1)) rfl ?_
  refine x_callV [.int (nI k), .int (nI 0)] rfl cv_R_wrongOf.1 lk_7_266 cv_R_wrongOf.2.1 cv_R_wrongOf.2.2.1 rfl cv_R_wrongOf.2.2.2.1 rfl rfl (Nat.le_of_ble_eq_true rfl) (by decide) cv_R_wrongOf.2.2.2.2 (m_wrongOf0 u1 T n b n' b' (hL.stay hQu1) hto k hk) ?_
  rintro r u2 ⟨hr, hqu2⟩
  rw [hr]
  clear hr r
  have hQu2 : QM S u2 := hQu1.tr hqu2
  refine run_ok 1 (c' := (26, [(0, .ref 48), (1, .int (nI k)), (2, .int (nI 0))], [.int (whv (wrg T k 8).1)], u2)) rfl ?_
  exact x_ret (r := some (.int (whv (wrg T k 8).1))) rfl rfl trivial ⟨rfl, hQu2⟩ rfl

set_option maxHeartbeats 2000000 in
theorem m_wrongOf1 (S : ST) (T : TD) (n : Nat) (b : Nat → Nat) (n' : Nat) (b' : Nat → Nat) (hL : ML T n b n' b' S) (hto : tok T) (k : Nat) (hk : k < tnb T) : EX me_R_wrongOf 7 [.ref 48, .int (nI k), .int (nI 1)] S (fun r u => r = some (.int (nI (wrg T k 8).2)) ∧ QM S u) := by
  refine EX.of mok_R_wrongOf (Nat.le_of_ble_eq_true rfl) ?_
  have n8 := hto.1
  refine run_ok 1 (c' := (1, [(0, .ref 48), (1, .int (nI k)), (2, .int (nI 1))], [.ref 48], S)) rfl ?_
  refine x_callV [] rfl cv_R_asTold.1 lk_7_220 cv_R_asTold.2.1 cv_R_asTold.2.2.1 rfl cv_R_asTold.2.2.2.1 rfl rfl (Nat.le_of_ble_eq_true rfl) (by decide) cv_R_asTold.2.2.2.2 (m_asTold S T n b n' b' (hL.stay QM.rf) hto) ?_
  rintro r u1 ⟨hr, hTu1, hRu1, hqu1⟩
  rw [hr]
  clear hr r
  have hQu1 : QM S u1 := QM.rf.tr hqu1
  obtain ⟨t1, t2, t3, t4, t5, t6, t7, t8, t9, t10, t11⟩ := id hTu1
  refine run_ok 6 (c' := (12, [(0, .ref 48), (1, .int (nI k)), (2, .int (nI 1)), (3, .int (-1)), (4, .int (-1)), (5, .int (nI 0))], [], u1)) rfl ?_
  refine loop_up (P := fun i => ∀ v : ST, MT T v → QM S v → BX me_R_wrongOf 7 none (fun r u => r = some (.int (nI (wrg T k 8).2)) ∧ QM S u) (12, [(0, .ref 48), (1, .int (nI k)), (2, .int (nI 1)), (3, .int (whv (wrg T k i).1)), (4, .int (mov (wrg T k i))), (5, .int (nI i))], [], v)) (8) ?_ ?_ 0 (by omega) _ hTu1 hQu1
  · intro v hI hQv
    refine run_ok 2 (c' := (16, [(0, .ref 48), (1, .int (nI k)), (2, .int (nI 1)), (3, .int (whv (wrg T k 8).1)), (4, .int (mov (wrg T k 8))), (5, .int (nI 8))], [.int (nI 8), .int (nI 8)], v)) rfl ?_
    refine x_icmpN_ge 117 rfl rfl (by omega) (by omega) (fun h16 => ?_) (fun hn => absurd (Nat.le_refl _) hn)
    refine run_ok 1 (c' := (118, [(0, .ref 48), (1, .int (nI k)), (2, .int (nI 1)), (3, .int (whv (wrg T k 8).1)), (4, .int (mov (wrg T k 8))), (5, .int (nI 8))], [.int (nI 1)], v)) rfl ?_
    refine x_ifN_ne 125 rfl rfl (by omega) (fun _ => ?_) (fun hn => absurd hn (by decide))
    refine run_ok 1 (c' := (127, [(0, .ref 48), (1, .int (nI k)), (2, .int (nI 1)), (3, .int (whv (wrg T k 8).1)), (4, .int (mov (wrg T k 8))), (5, .int (nI 8))], [.int (mov (wrg T k 8))], v)) rfl ?_
    exact x_ret (r := some (.int (mov (wrg T k 8)))) rfl rfl trivial ⟨congrArg (fun z => some (Value.int z)) (if_neg (wrg_ne T k)), hQv⟩ rfl
  · intro i hi ih v hI hQv
    obtain ⟨t1, t2, t3, t4, t5, t6, t7, t8, t9, t10, t11⟩ := id hI
    have q3 := wrg_le T k i (by omega)
    have q4 := (hto.2.2.1 k hk).2.1
    refine run_ok 2 (c' := (16, [(0, .ref 48), (1, .int (nI k)), (2, .int (nI 1)), (3, .int (whv (wrg T k i).1)), (4, .int (mov (wrg T k i))), (5, .int (nI i))], [.int (nI 8), .int (nI i)], v)) rfl ?_
    refine x_icmpN_ge 117 rfl rfl (by omega) (by omega) (fun hn => absurd hn (show ¬ 8 ≤ i by omega)) (fun h16 => ?_)
    refine run_ok 4 (c' := (26, [(0, .ref 48), (1, .int (nI k)), (2, .int (nI 1)), (3, .int (whv (wrg T k i).1)), (4, .int (mov (wrg T k i))), (5, .int (nI i))], [.int (nI k), .ref 54, .int (nI i)], v)) rfl ?_
    refine x_iaN (nI (tbu T k)) rfl rfl (by decide) (by omega) (t3 k (by omega)) ?_
    refine x_icmpN_eq 111 rfl rfl (by omega) (by omega) (fun h27 => ?_) (fun h27 => ?_)
    · refine run_ok 1 (c' := (114, [(0, .ref 48), (1, .int (nI k)), (2, .int (nI 1)), (3, .int (whv (wrg T k i).1)), (4, .int (mov (wrg T k i))), (5, .int (nI i + nI 1))], [], v)) rfl ?_
      rw [nI_add i 1]
      refine run_ok 1 (c' := (12, [(0, .ref 48), (1, .int (nI k)), (2, .int (nI 1)), (3, .int (whv (wrg T k i).1)), (4, .int (mov (wrg T k i))), (5, .int (nI (i + 1)))], [], v)) rfl ?_
      refine x_less [0, 1, 2, 3, 4, 5] rfl ?_
      rw [show wrg T k (i + 1) = wrg T k i from if_pos h27] at ih
      exact ih v hI hQv
    · refine run_ok 3 (c' := (35, [(0, .ref 48), (1, .int (nI k)), (2, .int (nI 1)), (3, .int (whv (wrg T k i).1)), (4, .int (mov (wrg T k i))), (5, .int (nI i))], [.int ((nI 8) * (nI i))], v)) rfl ?_
      refine x_top (v' := nI (8 * i)) (pk_mul _ _) ?_
      refine run_ok 3 (c' := (40, [(0, .ref 48), (1, .int (nI k)), (2, .int (nI 1)), (3, .int (whv (wrg T k i).1)), (4, .int (mov (wrg T k i))), (5, .int (nI i))], [.int (nI k), .ref 54, .int (nI (8 * i))], v)) rfl ?_
      refine x_iaN (nI (tbu T k)) rfl rfl (by decide) (by omega) (t3 k (by omega)) ?_
      refine run_ok 1 (c' := (42, [(0, .ref 48), (1, .int (nI k)), (2, .int (nI 1)), (3, .int (whv (wrg T k i).1)), (4, .int (mov (wrg T k i))), (5, .int (nI i))], [.int ((nI (8 * i)) + (nI (tbu T k)))], v)) rfl ?_
      refine x_top (v' := nI ((8 * i) + (tbu T k))) (nI_add _ _) ?_
      refine run_ok 4 (c' := (50, [(0, .ref 48), (1, .int (nI k)), (2, .int (nI 1)), (3, .int (whv (wrg T k i).1)), (4, .int (mov (wrg T k i))), (5, .int (nI i)), (6, .int (nI ((8 * i) + (tbu T k))))], [.int (nI ((8 * i) + (tbu T k))), .ref 52], v)) rfl ?_
      refine x_iaN (nI (th T ((8 * i) + (tbu T k)))) rfl rfl (by decide) (by omega) (t1 ((8 * i) + (tbu T k)) (by omega)) ?_
      refine run_ok 5 (c' := (60, [(0, .ref 48), (1, .int (nI k)), (2, .int (nI 1)), (3, .int (whv (wrg T k i).1)), (4, .int (mov (wrg T k i))), (5, .int (nI i)), (6, .int (nI ((8 * i) + (tbu T k)))), (7, .int (nI (th T ((8 * i) + (tbu T k)))))], [.int (nI 5), .int (nI ((8 * i) + (tbu T k))), .ref 52], v)) rfl ?_
      refine x_isN rfl rfl (by decide) (by omega) ?_
      refine run_ok 1 (c' := (62, [(0, .ref 48), (1, .int (nI k)), (2, .int (nI 1)), (3, .int (whv (wrg T k i).1)), (4, .int (mov (wrg T k i))), (5, .int (nI i)), (6, .int (nI ((8 * i) + (tbu T k)))), (7, .int (nI (th T ((8 * i) + (tbu T k)))))], [.ref 48], (pt v 52 ((8 * i) + (tbu T k)) (nI 5)))) rfl ?_
      refine x_callV [] rfl cv_R_runs.1 lk_7_223 cv_R_runs.2.1 cv_R_runs.2.2.1 rfl cv_R_runs.2.2.2.1 rfl rfl (Nat.le_of_ble_eq_true rfl) (by decide) cv_R_runs.2.2.2.2 (m_runs (pt v 52 ((8 * i) + (tbu T k)) (nI 5)) (wh T (upn (th T) (8 * i + tbu T k) 5)) hI.pth (tok_wh hto (by decide))) ?_
      rintro r u2 ⟨hr, hMu2, hCu2, hTu2, hfu2, h8u2, h2u2⟩
      rw [hr]
      clear hr r
      have hQu2 : QM S u2 := (hQv.cel (by decide) (by decide)).tr (QM.of hfu2 h8u2 h2u2 (by decide) (by decide))
      refine run_ok 4 (c' := (73, [(0, .ref 48), (1, .int (nI k)), (2, .int (nI 1)), (3, .int (whv (wrg T k i).1)), (4, .int (mov (wrg T k i))), (5, .int (nI i)), (6, .int (nI ((8 * i) + (tbu T k)))), (7, .int (nI (th T ((8 * i) + (tbu T k)))))], [.int (nI (th T ((8 * i) + (tbu T k)))), .int (nI ((8 * i) + (tbu T k))), .ref 52], u2)) rfl ?_
      refine x_isN rfl rfl (by decide) (by omega) ?_
      refine run_ok 2 (c' := (76, [(0, .ref 48), (1, .int (nI k)), (2, .int (nI 1)), (3, .int (whv (wrg T k i).1)), (4, .int (mov (wrg T k i))), (5, .int (nI i)), (6, .int (nI ((8 * i) + (tbu T k)))), (7, .int (nI (th T ((8 * i) + (tbu T k)))))], [.int (nI k), .ref 48], (pt u2 52 ((8 * i) + (tbu T k)) (nI (th T ((8 * i) + (tbu T k))))))) rfl ?_
      refine x_callV [.int (nI k)] rfl cv_R_longNow.1 lk_7_260 cv_R_longNow.2.1 cv_R_longNow.2.2.1 rfl cv_R_longNow.2.2.2.1 rfl rfl (Nat.le_of_ble_eq_true rfl) (by decide) cv_R_longNow.2.2.2.2 (m_longNow (pt u2 52 ((8 * i) + (tbu T k)) (nI (th T ((8 * i) + (tbu T k))))) (wh T (upn (th T) (8 * i + tbu T k) 5)) (RC.cel hCu2 (by decide)) (tok_wh hto (by decide)) k hk) ?_
      rintro r z ⟨hr, hu⟩
      rw [hr, hu]
      clear hr hu r z
      have q5 := lsn_le (wh T (upn (th T) (8 * i + tbu T k) 5)) k 24
      refine run_ok 3 (c' := (85, [(0, .ref 48), (1, .int (nI k)), (2, .int (nI 1)), (3, .int (whv (wrg T k i).1)), (4, .int (mov (wrg T k i))), (5, .int (nI i)), (6, .int (nI ((8 * i) + (tbu T k)))), (7, .int (nI (th T ((8 * i) + (tbu T k))))), (8, .int (nI (lsn (wh T (upn (th T) (8 * i + tbu T k) 5)) 24 k)))], [.int (mov (wrg T k i)), .int (nI (lsn (wh T (upn (th T) (8 * i + tbu T k) 5)) 24 k))], (pt u2 52 ((8 * i) + (tbu T k)) (nI (th T ((8 * i) + (tbu T k))))))) rfl ?_
      refine x_icmp_le 93 rfl rfl (fun h85 => ?_) (fun h85 => ?_)
      · refine run_ok 4 (c' := (99, [(0, .ref 48), (1, .int (nI k)), (2, .int (nI 1)), (3, .int (whv (wrg T k i).1)), (4, .int (mov (wrg T k i))), (5, .int (nI i)), (6, .int (nI ((8 * i) + (tbu T k)))), (7, .int (nI (th T ((8 * i) + (tbu T k))))), (8, .int (nI (lsn (wh T (upn (th T) (8 * i + tbu T k) 5)) 24 k)))], [.int (mov (wrg T k i)), .int (nI (lsn (wh T (upn (th T) (8 * i + tbu T k) 5)) 24 k))], (pt u2 52 ((8 * i) + (tbu T k)) (nI (th T ((8 * i) + (tbu T k))))))) rfl ?_
        refine x_icmp_le 107 rfl rfl (fun h99 => ?_) (fun h99 => ?_)
        · refine run_ok 3 (c' := (114, [(0, .ref 48), (1, .int (nI k)), (2, .int (nI 1)), (3, .int (whv (wrg T k i).1)), (4, .int (mov (wrg T k i))), (5, .int (nI i + nI 1)), (6, .int (nI ((8 * i) + (tbu T k)))), (7, .int (nI (th T ((8 * i) + (tbu T k))))), (8, .int (nI (lsn (wh T (upn (th T) (8 * i + tbu T k) 5)) 24 k)))], [], (pt u2 52 ((8 * i) + (tbu T k)) (nI (th T ((8 * i) + (tbu T k))))))) rfl ?_
          rw [nI_add i 1]
          refine run_ok 1 (c' := (12, [(0, .ref 48), (1, .int (nI k)), (2, .int (nI 1)), (3, .int (whv (wrg T k i).1)), (4, .int (mov (wrg T k i))), (5, .int (nI (i + 1))), (6, .int (nI ((8 * i) + (tbu T k)))), (7, .int (nI (th T ((8 * i) + (tbu T k))))), (8, .int (nI (lsn (wh T (upn (th T) (8 * i + tbu T k) 5)) 24 k)))], [], (pt u2 52 ((8 * i) + (tbu T k)) (nI (th T ((8 * i) + (tbu T k))))))) rfl ?_
          refine x_less [0, 1, 2, 3, 4, 5] rfl ?_
          rw [show wrg T k (i + 1) = wrg T k i from (if_neg h27).trans (bup_z h85 (by omega) (by omega))] at ih
          exact ih _ hTu2.bth (hQu2.cel (by decide) (by decide))
        · refine run_ok 4 (c' := (114, [(0, .ref 48), (1, .int (nI k)), (2, .int (nI 1)), (3, .int (whv (wrg T k i).1)), (4, .int (nI (lsn (wh T (upn (th T) (8 * i + tbu T k) 5)) 24 k))), (5, .int (nI i + nI 1)), (6, .int (nI ((8 * i) + (tbu T k)))), (7, .int (nI (th T ((8 * i) + (tbu T k))))), (8, .int (nI (lsn (wh T (upn (th T) (8 * i + tbu T k) 5)) 24 k)))], [], (pt u2 52 ((8 * i) + (tbu T k)) (nI (th T ((8 * i) + (tbu T k))))))) rfl ?_
          rw [nI_add i 1]
          refine run_ok 1 (c' := (12, [(0, .ref 48), (1, .int (nI k)), (2, .int (nI 1)), (3, .int (whv (wrg T k i).1)), (4, .int (nI (lsn (wh T (upn (th T) (8 * i + tbu T k) 5)) 24 k))), (5, .int (nI (i + 1))), (6, .int (nI ((8 * i) + (tbu T k)))), (7, .int (nI (th T ((8 * i) + (tbu T k))))), (8, .int (nI (lsn (wh T (upn (th T) (8 * i + tbu T k) 5)) 24 k)))], [], (pt u2 52 ((8 * i) + (tbu T k)) (nI (th T ((8 * i) + (tbu T k))))))) rfl ?_
          refine x_less [0, 1, 2, 3, 4, 5] rfl ?_
          exact absurd h85 h99
      · refine run_ok 5 (c' := (99, [(0, .ref 48), (1, .int (nI k)), (2, .int (nI 1)), (3, .int (nI i)), (4, .int (mov (wrg T k i))), (5, .int (nI i)), (6, .int (nI ((8 * i) + (tbu T k)))), (7, .int (nI (th T ((8 * i) + (tbu T k))))), (8, .int (nI (lsn (wh T (upn (th T) (8 * i + tbu T k) 5)) 24 k)))], [.int (mov (wrg T k i)), .int (nI (lsn (wh T (upn (th T) (8 * i + tbu T k) 5)) 24 k))], (pt u2 52 ((8 * i) + (tbu T k)) (nI (th T ((8 * i) + (tbu T k))))))) rfl ?_
        refine x_icmp_le 107 rfl rfl (fun h99 => ?_) (fun h99 => ?_)
        · refine run_ok 3 (c' := (114, [(0, .ref 48), (1, .int (nI k)), (2, .int (nI 1)), (3, .int (nI i)), (4, .int (mov (wrg T k i))), (5, .int (nI i + nI 1)), (6, .int (nI ((8 * i) + (tbu T k)))), (7, .int (nI (th T ((8 * i) + (tbu T k))))), (8, .int (nI (lsn (wh T (upn (th T) (8 * i + tbu T k) 5)) 24 k)))], [], (pt u2 52 ((8 * i) + (tbu T k)) (nI (th T ((8 * i) + (tbu T k))))))) rfl ?_
          rw [nI_add i 1]
          refine run_ok 1 (c' := (12, [(0, .ref 48), (1, .int (nI k)), (2, .int (nI 1)), (3, .int (nI i)), (4, .int (mov (wrg T k i))), (5, .int (nI (i + 1))), (6, .int (nI ((8 * i) + (tbu T k)))), (7, .int (nI (th T ((8 * i) + (tbu T k))))), (8, .int (nI (lsn (wh T (upn (th T) (8 * i + tbu T k) 5)) 24 k)))], [], (pt u2 52 ((8 * i) + (tbu T k)) (nI (th T ((8 * i) + (tbu T k))))))) rfl ?_
          refine x_less [0, 1, 2, 3, 4, 5] rfl ?_
          exact absurd h99 h85
        · refine run_ok 4 (c' := (114, [(0, .ref 48), (1, .int (nI k)), (2, .int (nI 1)), (3, .int (nI i)), (4, .int (nI (lsn (wh T (upn (th T) (8 * i + tbu T k) 5)) 24 k))), (5, .int (nI i + nI 1)), (6, .int (nI ((8 * i) + (tbu T k)))), (7, .int (nI (th T ((8 * i) + (tbu T k))))), (8, .int (nI (lsn (wh T (upn (th T) (8 * i + tbu T k) 5)) 24 k)))], [], (pt u2 52 ((8 * i) + (tbu T k)) (nI (th T ((8 * i) + (tbu T k))))))) rfl ?_
          rw [nI_add i 1]
          refine run_ok 1 (c' := (12, [(0, .ref 48), (1, .int (nI k)), (2, .int (nI 1)), (3, .int (nI i)), (4, .int (nI (lsn (wh T (upn (th T) (8 * i + tbu T k) 5)) 24 k))), (5, .int (nI (i + 1))), (6, .int (nI ((8 * i) + (tbu T k)))), (7, .int (nI (th T ((8 * i) + (tbu T k))))), (8, .int (nI (lsn (wh T (upn (th T) (8 * i + tbu T k) 5)) 24 k)))], [], (pt u2 52 ((8 * i) + (tbu T k)) (nI (th T ((8 * i) + (tbu T k))))))) rfl ?_
          refine x_less [0, 1, 2, 3, 4, 5] rfl ?_
          rw [show wrg T k (i + 1) = (i, lsn (wh T (upn (th T) (8 * i + tbu T k) 5)) 24 k) from (if_neg h27).trans (bup_s h85 (by omega) (by omega))] at ih
          rw [show whv (i, lsn (wh T (upn (th T) (8 * i + tbu T k) 5)) 24 k).1 = nI i from whv_lt (by show i < 99; omega), show mov (i, lsn (wh T (upn (th T) (8 * i + tbu T k) 5)) 24 k) = nI (lsn (wh T (upn (th T) (8 * i + tbu T k) 5)) 24 k) from if_neg (by show ¬ i = 99; omega)] at ih
          exact ih _ hTu2.bth (hQu2.cel (by decide) (by decide))

set_option maxHeartbeats 2000000 in
theorem m_wrong_ok1 (S : ST) (T : TD) (n : Nat) (b : Nat → Nat) (n' : Nat) (b' : Nat → Nat) (hL : ML T n b n' b' S) (hto : tok T) (k : Nat) (hk : k < tnb T) : EX me_R_wrong 8 [.ref 48, .int (nI k), .int (nI 1)] S (fun r u => r = some (.int (nI (wrg T k 8).2)) ∧ QM S u) := by
  refine EX.of mok_R_wrong (Nat.le_of_ble_eq_true rfl) ?_
  have n8 := hto.1
  refine run_ok 2 (c' := (2, [(0, .ref 48), (1, .int (nI k)), (2, .int (nI 1))], [.int (nI k), .ref 48], S)) rfl ?_
  refine x_callV [.int (nI k)] rfl cv_R_isBoat.1 lk_7_163 cv_R_isBoat.2.1 cv_R_isBoat.2.2.1 rfl cv_R_isBoat.2.2.2.1 rfl rfl (Nat.le_of_ble_eq_true rfl) (by decide) cv_R_isBoat.2.2.2.2 (m_isBoat S T n b n' b' (hL.stay QM.rf) hto (nI k)) ?_
  rintro r u1 ⟨hr, hRu1, hqu1⟩
  rw [hr]
  clear hr r
  have hQu1 : QM S u1 := QM.rf.tr hqu1
  refine x_ifB_eq 24 rfl rfl (fun hn => absurd hn (fun z => z (inr_t hk (by omega)))) (fun h5 => ?_)
  refine run_ok 1 (c' := (9, [(0, .ref 48), (1, .int (nI k)), (2, .int (nI 1))], [.int (nI 1)], u1)) rfl ?_
  refine x_callS [.int (nI 1)] rfl cs_R_isTwo.1 lk_7_241 cs_R_isTwo.2.1 rfl rfl (Nat.le_of_ble_eq_true rfl) (by decide) cs_R_isTwo.2.2 (m_isTwo u1 (nI 1)) ?_
  rintro r u ⟨hr, hu⟩
  rw [hr, hu]
  clear hr hu r u
  refine x_ifB_eq 24 rfl rfl (fun hn => absurd hn (fun z => z (inr_t (by decide) (by decide)))) (fun h12 => ?_)
  refine run_ok 3 (c' := (18, [(0, .ref 48), (1, .int (nI k)), (2, .int (nI 1))], [.int (nI 1), .int (nI k), .ref 48], u1)) rfl ?_
  refine x_callV [.int (nI k), .int (nI 1)] rfl cv_R_wrongOf.1 lk_7_266 cv_R_wrongOf.2.1 cv_R_wrongOf.2.2.1 rfl cv_R_wrongOf.2.2.2.1 rfl rfl (Nat.le_of_ble_eq_true rfl) (by decide) cv_R_wrongOf.2.2.2.2 (m_wrongOf1 u1 T n b n' b' (hL.stay hQu1) hto k hk) ?_
  rintro r u2 ⟨hr, hqu2⟩
  rw [hr]
  clear hr r
  have hQu2 : QM S u2 := hQu1.tr hqu2
  refine run_ok 1 (c' := (26, [(0, .ref 48), (1, .int (nI k)), (2, .int (nI 1))], [.int (nI (wrg T k 8).2)], u2)) rfl ?_
  exact x_ret (r := some (.int (nI (wrg T k 8).2))) rfl rfl trivial ⟨rfl, hQu2⟩ rfl

set_option maxHeartbeats 2000000 in
theorem m_wrong_bad (S : ST) (T : TD) (n : Nat) (b : Nat → Nat) (n' : Nat) (b' : Nat → Nat) (hL : ML T n b n' b' S) (hto : tok T) (x y : Int32) (hbad : ¬ ((0 ≤ x ∧ x < nI (tnb T)) ∧ (0 ≤ y ∧ y < nI 2))) : EX me_R_wrong 8 [.ref 48, .int x, .int y] S (fun r u => r = some (.int ((-2))) ∧ QM S u) := by
  refine EX.of mok_R_wrong (Nat.le_of_ble_eq_true rfl) ?_
  refine run_ok 2 (c' := (2, [(0, .ref 48), (1, .int x), (2, .int y)], [.int x, .ref 48], S)) rfl ?_
  refine x_callV [.int x] rfl cv_R_isBoat.1 lk_7_163 cv_R_isBoat.2.1 cv_R_isBoat.2.2.1 rfl cv_R_isBoat.2.2.2.1 rfl rfl (Nat.le_of_ble_eq_true rfl) (by decide) cv_R_isBoat.2.2.2.2 (m_isBoat S T n b n' b' (hL.stay QM.rf) hto (x)) ?_
  rintro r u1 ⟨hr, hRu1, hqu1⟩
  rw [hr]
  clear hr r
  have hQu1 : QM S u1 := QM.rf.tr hqu1
  refine x_ifB_eq 24 rfl rfl (fun h5 => ?_) (fun h5 => ?_)
  · refine run_ok 1 (c' := (26, [(0, .ref 48), (1, .int x), (2, .int y)], [.int (-2)], u1)) rfl ?_
    exact x_ret (r := some (.int (-2))) rfl rfl trivial ⟨rfl, hQu1⟩ rfl
  · refine run_ok 1 (c' := (9, [(0, .ref 48), (1, .int x), (2, .int y)], [.int y], u1)) rfl ?_
    refine x_callS [.int y] rfl cs_R_isTwo.1 lk_7_241 cs_R_isTwo.2.1 rfl rfl (Nat.le_of_ble_eq_true rfl) (by decide) cs_R_isTwo.2.2 (m_isTwo u1 (y)) ?_
    rintro r u ⟨hr, hu⟩
    rw [hr, hu]
    clear hr hu r u
    refine x_ifB_eq 24 rfl rfl (fun h12 => ?_) (fun h12 => ?_)
    · refine run_ok 1 (c' := (26, [(0, .ref 48), (1, .int x), (2, .int y)], [.int (-2)], u1)) rfl ?_
      exact x_ret (r := some (.int (-2))) rfl rfl trivial ⟨rfl, hQu1⟩ rfl
    · exact absurd ⟨h5, h12⟩ hbad

/-- a share more, its week open -/
def PI (T : TD) (k : Nat) (u : ST) : Prop := rh u 52 64 (th T) ∧ rh u 53 (tnb T) (tso T) ∧ rh u 54 (tnb T) (tbu T) ∧ rh u 55 (tnb T) (tla T) ∧ rh u 56 (tnb T) (tst T) ∧ rh u 60 (tne T + 1) (upn (tek T) (tne T) 1) ∧ rh u 61 (tne T) (tew T) ∧ rh u 62 (tne T + 1) (upn (teb T) (tne T) k) ∧ u.1 48 5 = nI (tnb T) ∧ u.1 48 14 = nI (tne T + 1) ∧ u.1 48 18 = nI (tlo T)
theorem rh.add {u : ST} {k n v : Nat} {f : Nat → Nat} {x : Int32} (h : rh u k n f) (hx : x = nI v) : rh (pt u k n x) k (n + 1) (upn f n v) := by
  intro j hj
  rw [pt_at]
  unfold upd upn
  split
  · exact hx
  · exact h j (by omega)
theorem PI.ev {T : TD} {k w : Nat} {u : ST} (h : PI T k u) : MT (pyw T k w) (pt u 61 (tne T) (nI w)) := by
  obtain ⟨h1, h2, h3, h4, h5, h6, h7, h8, h9, ha, hb⟩ := h
  exact ⟨h1.ne (by decide), h2.ne (by decide), h3.ne (by decide), h4.ne (by decide), h5.ne (by decide), h6.ne (by decide), h7.add rfl, h8.ne (by decide), h9, ha, hb⟩
theorem PI.of {T : TD} {k w : Nat} {u : ST} (h : MT (pyw T k w) u) : PI T k u := by
  obtain ⟨h1, h2, h3, h4, h5, h6, h7, h8, h9, ha, hb⟩ := h
  exact ⟨h1, h2, h3, h4, h5, h6, (rh.le h7 (Nat.le_succ _)).cg (fun j hj => (if_neg (by omega : ¬ j = tne T)).symm), h8, h9, ha, hb⟩
theorem MT.pi {T : TD} {k : Nat} {u : ST} (h : MT T u) : PI T k (pt (pt (pt u 48 14 (nI (tne T + 1))) 60 (tne T) (nI 1)) 62 (tne T) (nI k)) := by
  obtain ⟨h1, h2, h3, h4, h5, h6, h7, h8, h9, ha, hb⟩ := h
  exact ⟨((h1.ne (by decide)).ne (by decide)).ne (by decide), ((h2.ne (by decide)).ne (by decide)).ne (by decide), ((h3.ne (by decide)).ne (by decide)).ne (by decide), ((h4.ne (by decide)).ne (by decide)).ne (by decide), ((h5.ne (by decide)).ne (by decide)).ne (by decide), ((h6.ne (by decide)).add rfl).ne (by decide), ((h7.ne (by decide)).ne (by decide)).ne (by decide), ((h8.ne (by decide)).ne (by decide)).add rfl, h9, rfl, hb⟩
theorem tok_pyw {T : TD} (h : tok T) (hn : tne T ≤ 8) {k w : Nat} (hk : k < 8) (hw : w < 24) : tok (pyw T k w) := tok_wev h hn (by decide) hw hk
set_option maxHeartbeats 2000000 in
theorem m_payOf0 (S : ST) (T : TD) (n : Nat) (b : Nat → Nat) (n' : Nat) (b' : Nat → Nat) (hL : ML T n b n' b' S) (hto : tok T) (k : Nat) (hk : k < tnb T) : EX me_R_payOf 7 [.ref 48, .int (nI k), .int (nI 0)] S (fun r u => r = some (.int (whv (pyf T k 24).1)) ∧ QM S u) := by
  refine EX.of mok_R_payOf (Nat.le_of_ble_eq_true rfl) ?_
  have n8 := hto.1
  have ne8 := hL.2.2.2.2.2.2.2.2.2.1
  refine run_ok 1 (c' := (1, [(0, .ref 48), (1, .int (nI k)), (2, .int (nI 0))], [.ref 48], S)) rfl ?_
  refine x_callV [] rfl cv_R_asTold.1 lk_7_220 cv_R_asTold.2.1 cv_R_asTold.2.2.1 rfl cv_R_asTold.2.2.2.1 rfl rfl (Nat.le_of_ble_eq_true rfl) (by decide) cv_R_asTold.2.2.2.2 (m_asTold S T n b n' b' (hL.stay QM.rf) hto) ?_
  rintro r u1 ⟨hr, hTu1, hRu1, hqu1⟩
  rw [hr]
  clear hr r
  have hQu1 : QM S u1 := QM.rf.tr hqu1
  obtain ⟨t1, t2, t3, t4, t5, t6, t7, t8, t9, t10, t11⟩ := id hTu1
  have f10 := (hL.stay hQu1).2.2.2.2.2.2.2.2.1
  refine run_ok 7 (c' := (14, [(0, .ref 48), (1, .int (nI k)), (2, .int (nI 0)), (3, .int (-1)), (4, .int (-1))], [.int (u1.1 48 10), .ref 48], u1)) rfl ?_
  refine x_top (v' := nI (tne T)) f10 ?_
  refine run_ok 2 (c' := (16, [(0, .ref 48), (1, .int (nI k)), (2, .int (nI 0)), (3, .int (-1)), (4, .int (-1))], [.int ((nI (tne T)) + (nI 1)), .ref 48], u1)) rfl ?_
  refine x_top (v' := nI ((tne T) + 1)) (nI_add _ _) ?_
  refine run_ok 5 (c' := (27, [(0, .ref 48), (1, .int (nI k)), (2, .int (nI 0)), (3, .int (-1)), (4, .int (-1))], [.int (u1.1 48 10), .ref 60], (pt u1 48 14 (nI ((tne T) + 1))))) rfl ?_
  refine x_top (v' := nI (tne T)) f10 ?_
  refine run_ok 1 (c' := (28, [(0, .ref 48), (1, .int (nI k)), (2, .int (nI 0)), (3, .int (-1)), (4, .int (-1))], [.int (nI 1), .int (nI (tne T)), .ref 60], (pt u1 48 14 (nI ((tne T) + 1))))) rfl ?_
  refine x_isN rfl rfl (by decide) (by omega) ?_
  refine run_ok 4 (c' := (37, [(0, .ref 48), (1, .int (nI k)), (2, .int (nI 0)), (3, .int (-1)), (4, .int (-1))], [.int (u1.1 48 10), .ref 62], (pt (pt u1 48 14 (nI ((tne T) + 1))) 60 (tne T) (nI 1)))) rfl ?_
  refine x_top (v' := nI (tne T)) f10 ?_
  refine run_ok 1 (c' := (38, [(0, .ref 48), (1, .int (nI k)), (2, .int (nI 0)), (3, .int (-1)), (4, .int (-1))], [.int (nI k), .int (nI (tne T)), .ref 62], (pt (pt u1 48 14 (nI ((tne T) + 1))) 60 (tne T) (nI 1)))) rfl ?_
  refine x_isN rfl rfl (by decide) (by omega) ?_
  refine run_ok 2 (c' := (42, [(0, .ref 48), (1, .int (nI k)), (2, .int (nI 0)), (3, .int (-1)), (4, .int (-1)), (5, .int (nI 0))], [], (pt (pt (pt u1 48 14 (nI ((tne T) + 1))) 60 (tne T) (nI 1)) 62 (tne T) (nI k)))) rfl ?_
  refine loop_up (P := fun i => ∀ v : ST, PI T k v → QM S v → BX me_R_payOf 7 none (fun r u => r = some (.int (whv (pyf T k 24).1)) ∧ QM S u) (42, [(0, .ref 48), (1, .int (nI k)), (2, .int (nI 0)), (3, .int (whv (pyf T k i).1)), (4, .int (mov (pyf T k i))), (5, .int (nI i))], [], v)) (24) ?_ ?_ 0 (by omega) _ hTu1.pi (((hQu1.fld (by decide)).cel (by decide) (by decide)).cel (by decide) (by decide))
  · intro v hI hQv
    refine run_ok 2 (c' := (46, [(0, .ref 48), (1, .int (nI k)), (2, .int (nI 0)), (3, .int (whv (pyf T k 24).1)), (4, .int (mov (pyf T k 24))), (5, .int (nI 24))], [.int (nI 24), .int (nI 24)], v)) rfl ?_
    refine x_icmpN_ge 107 rfl rfl (by omega) (by omega) (fun h46 => ?_) (fun hn => absurd (Nat.le_refl _) hn)
    refine run_ok 1 (c' := (108, [(0, .ref 48), (1, .int (nI k)), (2, .int (nI 0)), (3, .int (whv (pyf T k 24).1)), (4, .int (mov (pyf T k 24))), (5, .int (nI 24))], [.int (nI 0)], v)) rfl ?_
    refine x_ifN_ne 115 rfl rfl (by omega) (fun hn => absurd hn (by decide)) (fun _ => ?_)
    refine run_ok 2 (c' := (117, [(0, .ref 48), (1, .int (nI k)), (2, .int (nI 0)), (3, .int (whv (pyf T k 24).1)), (4, .int (mov (pyf T k 24))), (5, .int (nI 24))], [.int (whv (pyf T k 24).1)], v)) rfl ?_
    exact x_ret (r := some (.int (whv (pyf T k 24).1))) rfl rfl trivial ⟨rfl, hQv⟩ rfl
  · intro i hi ih v hI hQv
    have f10 := (hL.stay hQv).2.2.2.2.2.2.2.2.1
    have q3 := pyf_le T k i (by omega)
    refine run_ok 2 (c' := (46, [(0, .ref 48), (1, .int (nI k)), (2, .int (nI 0)), (3, .int (whv (pyf T k i).1)), (4, .int (mov (pyf T k i))), (5, .int (nI i))], [.int (nI 24), .int (nI i)], v)) rfl ?_
    refine x_icmpN_ge 107 rfl rfl (by omega) (by omega) (fun hn => absurd hn (show ¬ 24 ≤ i by omega)) (fun h46 => ?_)
    refine run_ok 4 (c' := (57, [(0, .ref 48), (1, .int (nI k)), (2, .int (nI 0)), (3, .int (whv (pyf T k i).1)), (4, .int (mov (pyf T k i))), (5, .int (nI i))], [.int (v.1 48 10), .ref 61], v)) rfl ?_
    refine x_top (v' := nI (tne T)) f10 ?_
    refine run_ok 1 (c' := (59, [(0, .ref 48), (1, .int (nI k)), (2, .int (nI 0)), (3, .int (whv (pyf T k i).1)), (4, .int (mov (pyf T k i))), (5, .int (nI i))], [.int (nI i), .int (nI (tne T)), .ref 61], v)) rfl ?_
    refine x_isN rfl rfl (by decide) (by omega) ?_
    refine run_ok 1 (c' := (61, [(0, .ref 48), (1, .int (nI k)), (2, .int (nI 0)), (3, .int (whv (pyf T k i).1)), (4, .int (mov (pyf T k i))), (5, .int (nI i))], [.ref 48], (pt v 61 (tne T) (nI i)))) rfl ?_
    refine x_callV [] rfl cv_R_runs.1 lk_7_223 cv_R_runs.2.1 cv_R_runs.2.2.1 rfl cv_R_runs.2.2.2.1 rfl rfl (Nat.le_of_ble_eq_true rfl) (by decide) cv_R_runs.2.2.2.2 (m_runs (pt v 61 (tne T) (nI i)) (pyw T k i) hI.ev (tok_pyw hto hL.2.2.2.2.2.2.2.2.2.1 (by omega) (by omega))) ?_
    rintro r u2 ⟨hr, hMu2, hCu2, hTu2, hfu2, h8u2, h2u2⟩
    rw [hr]
    clear hr r
    have hQu2 : QM S u2 := (hQv.cel (by decide) (by decide)).tr (QM.of hfu2 h8u2 h2u2 (by decide) (by decide))
    refine run_ok 2 (c' := (66, [(0, .ref 48), (1, .int (nI k)), (2, .int (nI 0)), (3, .int (whv (pyf T k i).1)), (4, .int (mov (pyf T k i))), (5, .int (nI i))], [.int (nI k), .ref 48], u2)) rfl ?_
    refine x_callV [.int (nI k)] rfl cv_R_longNow.1 lk_7_260 cv_R_longNow.2.1 cv_R_longNow.2.2.1 rfl cv_R_longNow.2.2.2.1 rfl rfl (Nat.le_of_ble_eq_true rfl) (by decide) cv_R_longNow.2.2.2.2 (m_longNow u2 (pyw T k i) hCu2 (tok_pyw hto hL.2.2.2.2.2.2.2.2.2.1 (by omega) (by omega)) k hk) ?_
    rintro r z ⟨hr, hu⟩
    rw [hr, hu]
    clear hr hu r z
    have q5 := lsn_le (pyw T k i) k 24
    refine run_ok 3 (c' := (75, [(0, .ref 48), (1, .int (nI k)), (2, .int (nI 0)), (3, .int (whv (pyf T k i).1)), (4, .int (mov (pyf T k i))), (5, .int (nI i)), (6, .int (nI (lsn (pyw T k i) 24 k)))], [.int (mov (pyf T k i)), .int (nI (lsn (pyw T k i) 24 k))], u2)) rfl ?_
    refine x_icmp_le 83 rfl rfl (fun h75 => ?_) (fun h75 => ?_)
    · refine run_ok 4 (c' := (89, [(0, .ref 48), (1, .int (nI k)), (2, .int (nI 0)), (3, .int (whv (pyf T k i).1)), (4, .int (mov (pyf T k i))), (5, .int (nI i)), (6, .int (nI (lsn (pyw T k i) 24 k)))], [.int (mov (pyf T k i)), .int (nI (lsn (pyw T k i) 24 k))], u2)) rfl ?_
      refine x_icmp_le 97 rfl rfl (fun h89 => ?_) (fun h89 => ?_)
      · refine run_ok 3 (c' := (104, [(0, .ref 48), (1, .int (nI k)), (2, .int (nI 0)), (3, .int (whv (pyf T k i).1)), (4, .int (mov (pyf T k i))), (5, .int (nI i + nI 1)), (6, .int (nI (lsn (pyw T k i) 24 k)))], [], u2)) rfl ?_
        rw [nI_add i 1]
        refine run_ok 1 (c' := (42, [(0, .ref 48), (1, .int (nI k)), (2, .int (nI 0)), (3, .int (whv (pyf T k i).1)), (4, .int (mov (pyf T k i))), (5, .int (nI (i + 1))), (6, .int (nI (lsn (pyw T k i) 24 k)))], [], u2)) rfl ?_
        refine x_less [0, 1, 2, 3, 4, 5] rfl ?_
        rw [show pyf T k (i + 1) = pyf T k i from bup_z h75 (by omega) (by omega)] at ih
        exact ih _ (PI.of hTu2) hQu2
      · refine run_ok 4 (c' := (104, [(0, .ref 48), (1, .int (nI k)), (2, .int (nI 0)), (3, .int (whv (pyf T k i).1)), (4, .int (nI (lsn (pyw T k i) 24 k))), (5, .int (nI i + nI 1)), (6, .int (nI (lsn (pyw T k i) 24 k)))], [], u2)) rfl ?_
        rw [nI_add i 1]
        refine run_ok 1 (c' := (42, [(0, .ref 48), (1, .int (nI k)), (2, .int (nI 0)), (3, .int (whv (pyf T k i).1)), (4, .int (nI (lsn (pyw T k i) 24 k))), (5, .int (nI (i + 1))), (6, .int (nI (lsn (pyw T k i) 24 k)))], [], u2)) rfl ?_
        refine x_less [0, 1, 2, 3, 4, 5] rfl ?_
        exact absurd h75 h89
    · refine run_ok 5 (c' := (89, [(0, .ref 48), (1, .int (nI k)), (2, .int (nI 0)), (3, .int (nI i)), (4, .int (mov (pyf T k i))), (5, .int (nI i)), (6, .int (nI (lsn (pyw T k i) 24 k)))], [.int (mov (pyf T k i)), .int (nI (lsn (pyw T k i) 24 k))], u2)) rfl ?_
      refine x_icmp_le 97 rfl rfl (fun h89 => ?_) (fun h89 => ?_)
      · refine run_ok 3 (c' := (104, [(0, .ref 48), (1, .int (nI k)), (2, .int (nI 0)), (3, .int (nI i)), (4, .int (mov (pyf T k i))), (5, .int (nI i + nI 1)), (6, .int (nI (lsn (pyw T k i) 24 k)))], [], u2)) rfl ?_
        rw [nI_add i 1]
        refine run_ok 1 (c' := (42, [(0, .ref 48), (1, .int (nI k)), (2, .int (nI 0)), (3, .int (nI i)), (4, .int (mov (pyf T k i))), (5, .int (nI (i + 1))), (6, .int (nI (lsn (pyw T k i) 24 k)))], [], u2)) rfl ?_
        refine x_less [0, 1, 2, 3, 4, 5] rfl ?_
        exact absurd h89 h75
      · refine run_ok 4 (c' := (104, [(0, .ref 48), (1, .int (nI k)), (2, .int (nI 0)), (3, .int (nI i)), (4, .int (nI (lsn (pyw T k i) 24 k))), (5, .int (nI i + nI 1)), (6, .int (nI (lsn (pyw T k i) 24 k)))], [], u2)) rfl ?_
        rw [nI_add i 1]
        refine run_ok 1 (c' := (42, [(0, .ref 48), (1, .int (nI k)), (2, .int (nI 0)), (3, .int (nI i)), (4, .int (nI (lsn (pyw T k i) 24 k))), (5, .int (nI (i + 1))), (6, .int (nI (lsn (pyw T k i) 24 k)))], [], u2)) rfl ?_
        refine x_less [0, 1, 2, 3, 4, 5] rfl ?_
        rw [show pyf T k (i + 1) = (i, lsn (pyw T k i) 24 k) from bup_s h75 (by omega) (by omega)] at ih
        rw [show whv (i, lsn (pyw T k i) 24 k).1 = nI i from whv_lt (by show i < 99; omega), show mov (i, lsn (pyw T k i) 24 k) = nI (lsn (pyw T k i) 24 k) from if_neg (by show ¬ i = 99; omega)] at ih
        exact ih _ (PI.of hTu2) hQu2

set_option maxHeartbeats 2000000 in
theorem m_pay_ok0 (S : ST) (T : TD) (n : Nat) (b : Nat → Nat) (n' : Nat) (b' : Nat → Nat) (hL : ML T n b n' b' S) (hto : tok T) (k : Nat) (hk : k < tnb T) : EX me_R_pay 8 [.ref 48, .int (nI k), .int (nI 0)] S (fun r u => r = some (.int (whv (pyf T k 24).1)) ∧ QM S u) := by
  refine EX.of mok_R_pay (Nat.le_of_ble_eq_true rfl) ?_
  have n8 := hto.1
  refine run_ok 2 (c' := (2, [(0, .ref 48), (1, .int (nI k)), (2, .int (nI 0))], [.int (nI k), .ref 48], S)) rfl ?_
  refine x_callV [.int (nI k)] rfl cv_R_isBoat.1 lk_7_163 cv_R_isBoat.2.1 cv_R_isBoat.2.2.1 rfl cv_R_isBoat.2.2.2.1 rfl rfl (Nat.le_of_ble_eq_true rfl) (by decide) cv_R_isBoat.2.2.2.2 (m_isBoat S T n b n' b' (hL.stay QM.rf) hto (nI k)) ?_
  rintro r u1 ⟨hr, hRu1, hqu1⟩
  rw [hr]
  clear hr r
  have hQu1 : QM S u1 := QM.rf.tr hqu1
  refine x_ifB_eq 24 rfl rfl (fun hn => absurd hn (fun z => z (inr_t hk (by omega)))) (fun h5 => ?_)
  refine run_ok 1 (c' := (9, [(0, .ref 48), (1, .int (nI k)), (2, .int (nI 0))], [.int (nI 0)], u1)) rfl ?_
  refine x_callS [.int (nI 0)] rfl cs_R_isTwo.1 lk_7_241 cs_R_isTwo.2.1 rfl rfl (Nat.le_of_ble_eq_true rfl) (by decide) cs_R_isTwo.2.2 (m_isTwo u1 (nI 0)) ?_
  rintro r u ⟨hr, hu⟩
  rw [hr, hu]
  clear hr hu r u
  refine x_ifB_eq 24 rfl rfl (fun hn => absurd hn (fun z => z (inr_t (by decide) (by decide)))) (fun h12 => ?_)
  refine run_ok 3 (c' := (18, [(0, .ref 48), (1, .int (nI k)), (2, .int (nI 0))], [.int (nI 0), .int (nI k), .ref 48], u1)) rfl ?_
  refine x_callV [.int (nI k), .int (nI 0)] rfl cv_R_payOf.1 lk_7_269 cv_R_payOf.2.1 cv_R_payOf.2.2.1 rfl cv_R_payOf.2.2.2.1 rfl rfl (Nat.le_of_ble_eq_true rfl) (by decide) cv_R_payOf.2.2.2.2 (m_payOf0 u1 T n b n' b' (hL.stay hQu1) hto k hk) ?_
  rintro r u2 ⟨hr, hqu2⟩
  rw [hr]
  clear hr r
  have hQu2 : QM S u2 := hQu1.tr hqu2
  refine run_ok 1 (c' := (26, [(0, .ref 48), (1, .int (nI k)), (2, .int (nI 0))], [.int (whv (pyf T k 24).1)], u2)) rfl ?_
  exact x_ret (r := some (.int (whv (pyf T k 24).1))) rfl rfl trivial ⟨rfl, hQu2⟩ rfl

set_option maxHeartbeats 2000000 in
theorem m_payOf1 (S : ST) (T : TD) (n : Nat) (b : Nat → Nat) (n' : Nat) (b' : Nat → Nat) (hL : ML T n b n' b' S) (hto : tok T) (k : Nat) (hk : k < tnb T) : EX me_R_payOf 7 [.ref 48, .int (nI k), .int (nI 1)] S (fun r u => r = some (.int (nI (pyf T k 24).2)) ∧ QM S u) := by
  refine EX.of mok_R_payOf (Nat.le_of_ble_eq_true rfl) ?_
  have n8 := hto.1
  have ne8 := hL.2.2.2.2.2.2.2.2.2.1
  refine run_ok 1 (c' := (1, [(0, .ref 48), (1, .int (nI k)), (2, .int (nI 1))], [.ref 48], S)) rfl ?_
  refine x_callV [] rfl cv_R_asTold.1 lk_7_220 cv_R_asTold.2.1 cv_R_asTold.2.2.1 rfl cv_R_asTold.2.2.2.1 rfl rfl (Nat.le_of_ble_eq_true rfl) (by decide) cv_R_asTold.2.2.2.2 (m_asTold S T n b n' b' (hL.stay QM.rf) hto) ?_
  rintro r u1 ⟨hr, hTu1, hRu1, hqu1⟩
  rw [hr]
  clear hr r
  have hQu1 : QM S u1 := QM.rf.tr hqu1
  obtain ⟨t1, t2, t3, t4, t5, t6, t7, t8, t9, t10, t11⟩ := id hTu1
  have f10 := (hL.stay hQu1).2.2.2.2.2.2.2.2.1
  refine run_ok 7 (c' := (14, [(0, .ref 48), (1, .int (nI k)), (2, .int (nI 1)), (3, .int (-1)), (4, .int (-1))], [.int (u1.1 48 10), .ref 48], u1)) rfl ?_
  refine x_top (v' := nI (tne T)) f10 ?_
  refine run_ok 2 (c' := (16, [(0, .ref 48), (1, .int (nI k)), (2, .int (nI 1)), (3, .int (-1)), (4, .int (-1))], [.int ((nI (tne T)) + (nI 1)), .ref 48], u1)) rfl ?_
  refine x_top (v' := nI ((tne T) + 1)) (nI_add _ _) ?_
  refine run_ok 5 (c' := (27, [(0, .ref 48), (1, .int (nI k)), (2, .int (nI 1)), (3, .int (-1)), (4, .int (-1))], [.int (u1.1 48 10), .ref 60], (pt u1 48 14 (nI ((tne T) + 1))))) rfl ?_
  refine x_top (v' := nI (tne T)) f10 ?_
  refine run_ok 1 (c' := (28, [(0, .ref 48), (1, .int (nI k)), (2, .int (nI 1)), (3, .int (-1)), (4, .int (-1))], [.int (nI 1), .int (nI (tne T)), .ref 60], (pt u1 48 14 (nI ((tne T) + 1))))) rfl ?_
  refine x_isN rfl rfl (by decide) (by omega) ?_
  refine run_ok 4 (c' := (37, [(0, .ref 48), (1, .int (nI k)), (2, .int (nI 1)), (3, .int (-1)), (4, .int (-1))], [.int (u1.1 48 10), .ref 62], (pt (pt u1 48 14 (nI ((tne T) + 1))) 60 (tne T) (nI 1)))) rfl ?_
  refine x_top (v' := nI (tne T)) f10 ?_
  refine run_ok 1 (c' := (38, [(0, .ref 48), (1, .int (nI k)), (2, .int (nI 1)), (3, .int (-1)), (4, .int (-1))], [.int (nI k), .int (nI (tne T)), .ref 62], (pt (pt u1 48 14 (nI ((tne T) + 1))) 60 (tne T) (nI 1)))) rfl ?_
  refine x_isN rfl rfl (by decide) (by omega) ?_
  refine run_ok 2 (c' := (42, [(0, .ref 48), (1, .int (nI k)), (2, .int (nI 1)), (3, .int (-1)), (4, .int (-1)), (5, .int (nI 0))], [], (pt (pt (pt u1 48 14 (nI ((tne T) + 1))) 60 (tne T) (nI 1)) 62 (tne T) (nI k)))) rfl ?_
  refine loop_up (P := fun i => ∀ v : ST, PI T k v → QM S v → BX me_R_payOf 7 none (fun r u => r = some (.int (nI (pyf T k 24).2)) ∧ QM S u) (42, [(0, .ref 48), (1, .int (nI k)), (2, .int (nI 1)), (3, .int (whv (pyf T k i).1)), (4, .int (mov (pyf T k i))), (5, .int (nI i))], [], v)) (24) ?_ ?_ 0 (by omega) _ hTu1.pi (((hQu1.fld (by decide)).cel (by decide) (by decide)).cel (by decide) (by decide))
  · intro v hI hQv
    refine run_ok 2 (c' := (46, [(0, .ref 48), (1, .int (nI k)), (2, .int (nI 1)), (3, .int (whv (pyf T k 24).1)), (4, .int (mov (pyf T k 24))), (5, .int (nI 24))], [.int (nI 24), .int (nI 24)], v)) rfl ?_
    refine x_icmpN_ge 107 rfl rfl (by omega) (by omega) (fun h46 => ?_) (fun hn => absurd (Nat.le_refl _) hn)
    refine run_ok 1 (c' := (108, [(0, .ref 48), (1, .int (nI k)), (2, .int (nI 1)), (3, .int (whv (pyf T k 24).1)), (4, .int (mov (pyf T k 24))), (5, .int (nI 24))], [.int (nI 1)], v)) rfl ?_
    refine x_ifN_ne 115 rfl rfl (by omega) (fun _ => ?_) (fun hn => absurd hn (by decide))
    refine run_ok 1 (c' := (117, [(0, .ref 48), (1, .int (nI k)), (2, .int (nI 1)), (3, .int (whv (pyf T k 24).1)), (4, .int (mov (pyf T k 24))), (5, .int (nI 24))], [.int (mov (pyf T k 24))], v)) rfl ?_
    exact x_ret (r := some (.int (mov (pyf T k 24)))) rfl rfl trivial ⟨congrArg (fun z => some (Value.int z)) (if_neg (pyf_ne T k 23 (by decide))), hQv⟩ rfl
  · intro i hi ih v hI hQv
    have f10 := (hL.stay hQv).2.2.2.2.2.2.2.2.1
    have q3 := pyf_le T k i (by omega)
    refine run_ok 2 (c' := (46, [(0, .ref 48), (1, .int (nI k)), (2, .int (nI 1)), (3, .int (whv (pyf T k i).1)), (4, .int (mov (pyf T k i))), (5, .int (nI i))], [.int (nI 24), .int (nI i)], v)) rfl ?_
    refine x_icmpN_ge 107 rfl rfl (by omega) (by omega) (fun hn => absurd hn (show ¬ 24 ≤ i by omega)) (fun h46 => ?_)
    refine run_ok 4 (c' := (57, [(0, .ref 48), (1, .int (nI k)), (2, .int (nI 1)), (3, .int (whv (pyf T k i).1)), (4, .int (mov (pyf T k i))), (5, .int (nI i))], [.int (v.1 48 10), .ref 61], v)) rfl ?_
    refine x_top (v' := nI (tne T)) f10 ?_
    refine run_ok 1 (c' := (59, [(0, .ref 48), (1, .int (nI k)), (2, .int (nI 1)), (3, .int (whv (pyf T k i).1)), (4, .int (mov (pyf T k i))), (5, .int (nI i))], [.int (nI i), .int (nI (tne T)), .ref 61], v)) rfl ?_
    refine x_isN rfl rfl (by decide) (by omega) ?_
    refine run_ok 1 (c' := (61, [(0, .ref 48), (1, .int (nI k)), (2, .int (nI 1)), (3, .int (whv (pyf T k i).1)), (4, .int (mov (pyf T k i))), (5, .int (nI i))], [.ref 48], (pt v 61 (tne T) (nI i)))) rfl ?_
    refine x_callV [] rfl cv_R_runs.1 lk_7_223 cv_R_runs.2.1 cv_R_runs.2.2.1 rfl cv_R_runs.2.2.2.1 rfl rfl (Nat.le_of_ble_eq_true rfl) (by decide) cv_R_runs.2.2.2.2 (m_runs (pt v 61 (tne T) (nI i)) (pyw T k i) hI.ev (tok_pyw hto hL.2.2.2.2.2.2.2.2.2.1 (by omega) (by omega))) ?_
    rintro r u2 ⟨hr, hMu2, hCu2, hTu2, hfu2, h8u2, h2u2⟩
    rw [hr]
    clear hr r
    have hQu2 : QM S u2 := (hQv.cel (by decide) (by decide)).tr (QM.of hfu2 h8u2 h2u2 (by decide) (by decide))
    refine run_ok 2 (c' := (66, [(0, .ref 48), (1, .int (nI k)), (2, .int (nI 1)), (3, .int (whv (pyf T k i).1)), (4, .int (mov (pyf T k i))), (5, .int (nI i))], [.int (nI k), .ref 48], u2)) rfl ?_
    refine x_callV [.int (nI k)] rfl cv_R_longNow.1 lk_7_260 cv_R_longNow.2.1 cv_R_longNow.2.2.1 rfl cv_R_longNow.2.2.2.1 rfl rfl (Nat.le_of_ble_eq_true rfl) (by decide) cv_R_longNow.2.2.2.2 (m_longNow u2 (pyw T k i) hCu2 (tok_pyw hto hL.2.2.2.2.2.2.2.2.2.1 (by omega) (by omega)) k hk) ?_
    rintro r z ⟨hr, hu⟩
    rw [hr, hu]
    clear hr hu r z
    have q5 := lsn_le (pyw T k i) k 24
    refine run_ok 3 (c' := (75, [(0, .ref 48), (1, .int (nI k)), (2, .int (nI 1)), (3, .int (whv (pyf T k i).1)), (4, .int (mov (pyf T k i))), (5, .int (nI i)), (6, .int (nI (lsn (pyw T k i) 24 k)))], [.int (mov (pyf T k i)), .int (nI (lsn (pyw T k i) 24 k))], u2)) rfl ?_
    refine x_icmp_le 83 rfl rfl (fun h75 => ?_) (fun h75 => ?_)
    · refine run_ok 4 (c' := (89, [(0, .ref 48), (1, .int (nI k)), (2, .int (nI 1)), (3, .int (whv (pyf T k i).1)), (4, .int (mov (pyf T k i))), (5, .int (nI i)), (6, .int (nI (lsn (pyw T k i) 24 k)))], [.int (mov (pyf T k i)), .int (nI (lsn (pyw T k i) 24 k))], u2)) rfl ?_
      refine x_icmp_le 97 rfl rfl (fun h89 => ?_) (fun h89 => ?_)
      · refine run_ok 3 (c' := (104, [(0, .ref 48), (1, .int (nI k)), (2, .int (nI 1)), (3, .int (whv (pyf T k i).1)), (4, .int (mov (pyf T k i))), (5, .int (nI i + nI 1)), (6, .int (nI (lsn (pyw T k i) 24 k)))], [], u2)) rfl ?_
        rw [nI_add i 1]
        refine run_ok 1 (c' := (42, [(0, .ref 48), (1, .int (nI k)), (2, .int (nI 1)), (3, .int (whv (pyf T k i).1)), (4, .int (mov (pyf T k i))), (5, .int (nI (i + 1))), (6, .int (nI (lsn (pyw T k i) 24 k)))], [], u2)) rfl ?_
        refine x_less [0, 1, 2, 3, 4, 5] rfl ?_
        rw [show pyf T k (i + 1) = pyf T k i from bup_z h75 (by omega) (by omega)] at ih
        exact ih _ (PI.of hTu2) hQu2
      · refine run_ok 4 (c' := (104, [(0, .ref 48), (1, .int (nI k)), (2, .int (nI 1)), (3, .int (whv (pyf T k i).1)), (4, .int (nI (lsn (pyw T k i) 24 k))), (5, .int (nI i + nI 1)), (6, .int (nI (lsn (pyw T k i) 24 k)))], [], u2)) rfl ?_
        rw [nI_add i 1]
        refine run_ok 1 (c' := (42, [(0, .ref 48), (1, .int (nI k)), (2, .int (nI 1)), (3, .int (whv (pyf T k i).1)), (4, .int (nI (lsn (pyw T k i) 24 k))), (5, .int (nI (i + 1))), (6, .int (nI (lsn (pyw T k i) 24 k)))], [], u2)) rfl ?_
        refine x_less [0, 1, 2, 3, 4, 5] rfl ?_
        exact absurd h75 h89
    · refine run_ok 5 (c' := (89, [(0, .ref 48), (1, .int (nI k)), (2, .int (nI 1)), (3, .int (nI i)), (4, .int (mov (pyf T k i))), (5, .int (nI i)), (6, .int (nI (lsn (pyw T k i) 24 k)))], [.int (mov (pyf T k i)), .int (nI (lsn (pyw T k i) 24 k))], u2)) rfl ?_
      refine x_icmp_le 97 rfl rfl (fun h89 => ?_) (fun h89 => ?_)
      · refine run_ok 3 (c' := (104, [(0, .ref 48), (1, .int (nI k)), (2, .int (nI 1)), (3, .int (nI i)), (4, .int (mov (pyf T k i))), (5, .int (nI i + nI 1)), (6, .int (nI (lsn (pyw T k i) 24 k)))], [], u2)) rfl ?_
        rw [nI_add i 1]
        refine run_ok 1 (c' := (42, [(0, .ref 48), (1, .int (nI k)), (2, .int (nI 1)), (3, .int (nI i)), (4, .int (mov (pyf T k i))), (5, .int (nI (i + 1))), (6, .int (nI (lsn (pyw T k i) 24 k)))], [], u2)) rfl ?_
        refine x_less [0, 1, 2, 3, 4, 5] rfl ?_
        exact absurd h89 h75
      · refine run_ok 4 (c' := (104, [(0, .ref 48), (1, .int (nI k)), (2, .int (nI 1)), (3, .int (nI i)), (4, .int (nI (lsn (pyw T k i) 24 k))), (5, .int (nI i + nI 1)), (6, .int (nI (lsn (pyw T k i) 24 k)))], [], u2)) rfl ?_
        rw [nI_add i 1]
        refine run_ok 1 (c' := (42, [(0, .ref 48), (1, .int (nI k)), (2, .int (nI 1)), (3, .int (nI i)), (4, .int (nI (lsn (pyw T k i) 24 k))), (5, .int (nI (i + 1))), (6, .int (nI (lsn (pyw T k i) 24 k)))], [], u2)) rfl ?_
        refine x_less [0, 1, 2, 3, 4, 5] rfl ?_
        rw [show pyf T k (i + 1) = (i, lsn (pyw T k i) 24 k) from bup_s h75 (by omega) (by omega)] at ih
        rw [show whv (i, lsn (pyw T k i) 24 k).1 = nI i from whv_lt (by show i < 99; omega), show mov (i, lsn (pyw T k i) 24 k) = nI (lsn (pyw T k i) 24 k) from if_neg (by show ¬ i = 99; omega)] at ih
        exact ih _ (PI.of hTu2) hQu2

set_option maxHeartbeats 2000000 in
theorem m_pay_ok1 (S : ST) (T : TD) (n : Nat) (b : Nat → Nat) (n' : Nat) (b' : Nat → Nat) (hL : ML T n b n' b' S) (hto : tok T) (k : Nat) (hk : k < tnb T) : EX me_R_pay 8 [.ref 48, .int (nI k), .int (nI 1)] S (fun r u => r = some (.int (nI (pyf T k 24).2)) ∧ QM S u) := by
  refine EX.of mok_R_pay (Nat.le_of_ble_eq_true rfl) ?_
  have n8 := hto.1
  refine run_ok 2 (c' := (2, [(0, .ref 48), (1, .int (nI k)), (2, .int (nI 1))], [.int (nI k), .ref 48], S)) rfl ?_
  refine x_callV [.int (nI k)] rfl cv_R_isBoat.1 lk_7_163 cv_R_isBoat.2.1 cv_R_isBoat.2.2.1 rfl cv_R_isBoat.2.2.2.1 rfl rfl (Nat.le_of_ble_eq_true rfl) (by decide) cv_R_isBoat.2.2.2.2 (m_isBoat S T n b n' b' (hL.stay QM.rf) hto (nI k)) ?_
  rintro r u1 ⟨hr, hRu1, hqu1⟩
  rw [hr]
  clear hr r
  have hQu1 : QM S u1 := QM.rf.tr hqu1
  refine x_ifB_eq 24 rfl rfl (fun hn => absurd hn (fun z => z (inr_t hk (by omega)))) (fun h5 => ?_)
  refine run_ok 1 (c' := (9, [(0, .ref 48), (1, .int (nI k)), (2, .int (nI 1))], [.int (nI 1)], u1)) rfl ?_
  refine x_callS [.int (nI 1)] rfl cs_R_isTwo.1 lk_7_241 cs_R_isTwo.2.1 rfl rfl (Nat.le_of_ble_eq_true rfl) (by decide) cs_R_isTwo.2.2 (m_isTwo u1 (nI 1)) ?_
  rintro r u ⟨hr, hu⟩
  rw [hr, hu]
  clear hr hu r u
  refine x_ifB_eq 24 rfl rfl (fun hn => absurd hn (fun z => z (inr_t (by decide) (by decide)))) (fun h12 => ?_)
  refine run_ok 3 (c' := (18, [(0, .ref 48), (1, .int (nI k)), (2, .int (nI 1))], [.int (nI 1), .int (nI k), .ref 48], u1)) rfl ?_
  refine x_callV [.int (nI k), .int (nI 1)] rfl cv_R_payOf.1 lk_7_269 cv_R_payOf.2.1 cv_R_payOf.2.2.1 rfl cv_R_payOf.2.2.2.1 rfl rfl (Nat.le_of_ble_eq_true rfl) (by decide) cv_R_payOf.2.2.2.2 (m_payOf1 u1 T n b n' b' (hL.stay hQu1) hto k hk) ?_
  rintro r u2 ⟨hr, hqu2⟩
  rw [hr]
  clear hr r
  have hQu2 : QM S u2 := hQu1.tr hqu2
  refine run_ok 1 (c' := (26, [(0, .ref 48), (1, .int (nI k)), (2, .int (nI 1))], [.int (nI (pyf T k 24).2)], u2)) rfl ?_
  exact x_ret (r := some (.int (nI (pyf T k 24).2))) rfl rfl trivial ⟨rfl, hQu2⟩ rfl

set_option maxHeartbeats 2000000 in
theorem m_pay_bad (S : ST) (T : TD) (n : Nat) (b : Nat → Nat) (n' : Nat) (b' : Nat → Nat) (hL : ML T n b n' b' S) (hto : tok T) (x y : Int32) (hbad : ¬ ((0 ≤ x ∧ x < nI (tnb T)) ∧ (0 ≤ y ∧ y < nI 2))) : EX me_R_pay 8 [.ref 48, .int x, .int y] S (fun r u => r = some (.int ((-2))) ∧ QM S u) := by
  refine EX.of mok_R_pay (Nat.le_of_ble_eq_true rfl) ?_
  refine run_ok 2 (c' := (2, [(0, .ref 48), (1, .int x), (2, .int y)], [.int x, .ref 48], S)) rfl ?_
  refine x_callV [.int x] rfl cv_R_isBoat.1 lk_7_163 cv_R_isBoat.2.1 cv_R_isBoat.2.2.1 rfl cv_R_isBoat.2.2.2.1 rfl rfl (Nat.le_of_ble_eq_true rfl) (by decide) cv_R_isBoat.2.2.2.2 (m_isBoat S T n b n' b' (hL.stay QM.rf) hto (x)) ?_
  rintro r u1 ⟨hr, hRu1, hqu1⟩
  rw [hr]
  clear hr r
  have hQu1 : QM S u1 := QM.rf.tr hqu1
  refine x_ifB_eq 24 rfl rfl (fun h5 => ?_) (fun h5 => ?_)
  · refine run_ok 1 (c' := (26, [(0, .ref 48), (1, .int x), (2, .int y)], [.int (-2)], u1)) rfl ?_
    exact x_ret (r := some (.int (-2))) rfl rfl trivial ⟨rfl, hQu1⟩ rfl
  · refine run_ok 1 (c' := (9, [(0, .ref 48), (1, .int x), (2, .int y)], [.int y], u1)) rfl ?_
    refine x_callS [.int y] rfl cs_R_isTwo.1 lk_7_241 cs_R_isTwo.2.1 rfl rfl (Nat.le_of_ble_eq_true rfl) (by decide) cs_R_isTwo.2.2 (m_isTwo u1 (y)) ?_
    rintro r u ⟨hr, hu⟩
    rw [hr, hu]
    clear hr hu r u
    refine x_ifB_eq 24 rfl rfl (fun h12 => ?_) (fun h12 => ?_)
    · refine run_ok 1 (c' := (26, [(0, .ref 48), (1, .int x), (2, .int y)], [.int (-2)], u1)) rfl ?_
      exact x_ret (r := some (.int (-2))) rfl rfl trivial ⟨rfl, hQu1⟩ rfl
    · exact absurd ⟨h5, h12⟩ hbad

/-- one boat's week open -/
def WI (T : TD) (k : Nat) (u : ST) : Prop := ∃ x, MT (wla T (upn (tla T) k x)) u
theorem WI.ev {T : TD} {k w : Nat} {u : ST} (h : WI T k u) : MT (wla T (upn (tla T) k w)) (pt u 55 k (nI w)) := by
  obtain ⟨x, h1, h2, h3, h4, h5, h6, h7, h8, h9, ha, hb⟩ := h
  refine ⟨h1.ne (by decide), h2.ne (by decide), h3.ne (by decide), h4.put.cg (fun j hj => ?_), h5.ne (by decide), h6.ne (by decide), h7.ne (by decide), h8.ne (by decide), h9, ha, hb⟩
  show upn (tla T) k w j = upn (upn (tla T) k x) k w j
  unfold upn
  split <;> rfl
theorem MT.wi {T : TD} {k : Nat} {u : ST} (h : MT T u) : WI T k u := by
  obtain ⟨h1, h2, h3, h4, h5, h6, h7, h8, h9, ha, hb⟩ := h
  refine ⟨tla T k, h1, h2, h3, h4.cg (fun j hj => ?_), h5, h6, h7, h8, h9, ha, hb⟩
  show upn (tla T) k (tla T k) j = tla T j
  unfold upn
  split
  · rename_i e; rw [e]
  · rfl
theorem bdn_s {b : Nat × Nat} {n l : Nat} (h : b.1 = 99 ∨ l < b.2) : bdn b n l = (n, l) := if_pos h
theorem bdn_z {b : Nat × Nat} {n l : Nat} (h : ¬ (b.1 = 99 ∨ l < b.2)) : bdn b n l = b := if_neg h
set_option maxHeartbeats 2000000 in
theorem m_waitsOf0 (S : ST) (T : TD) (n : Nat) (b : Nat → Nat) (n' : Nat) (b' : Nat → Nat) (hL : ML T n b n' b' S) (hto : tok T) (k : Nat) (hk : k < tnb T) : EX me_R_waitsOf 7 [.ref 48, .int (nI k), .int (nI 0)] S (fun r u => r = some (.int (whv (waf T k 24).1)) ∧ QM S u) := by
  refine EX.of mok_R_waitsOf (Nat.le_of_ble_eq_true rfl) ?_
  have n8 := hto.1
  refine run_ok 1 (c' := (1, [(0, .ref 48), (1, .int (nI k)), (2, .int (nI 0))], [.ref 48], S)) rfl ?_
  refine x_callV [] rfl cv_R_asTold.1 lk_7_220 cv_R_asTold.2.1 cv_R_asTold.2.2.1 rfl cv_R_asTold.2.2.2.1 rfl rfl (Nat.le_of_ble_eq_true rfl) (by decide) cv_R_asTold.2.2.2.2 (m_asTold S T n b n' b' (hL.stay QM.rf) hto) ?_
  rintro r u1 ⟨hr, hTu1, hRu1, hqu1⟩
  rw [hr]
  clear hr r
  have hQu1 : QM S u1 := QM.rf.tr hqu1
  obtain ⟨t1, t2, t3, t4, t5, t6, t7, t8, t9, t10, t11⟩ := id hTu1
  refine run_ok 3 (c' := (9, [(0, .ref 48), (1, .int (nI k)), (2, .int (nI 0))], [.int (nI k), .ref 55], u1)) rfl ?_
  refine x_iaN (nI (tla T k)) rfl rfl (by decide) (by omega) (t4 k (by omega)) ?_
  refine run_ok 7 (c' := (20, [(0, .ref 48), (1, .int (nI k)), (2, .int (nI 0)), (3, .int (nI (tla T k))), (4, .int (-1)), (5, .int (nI 0)), (6, .int (nI 0))], [], u1)) rfl ?_
  refine loop_up (P := fun i => ∀ v : ST, WI T k v → QM S v → BX me_R_waitsOf 7 none (fun r u => r = some (.int (whv (waf T k 24).1)) ∧ QM S u) (20, [(0, .ref 48), (1, .int (nI k)), (2, .int (nI 0)), (3, .int (nI (tla T k))), (4, .int (whv (waf T k i).1)), (5, .int (nI ((waf T k i).2))), (6, .int (nI i))], [], v)) (24) ?_ ?_ 0 (by omega) _ hTu1.wi hQu1
  · intro v hI hQv
    refine run_ok 2 (c' := (24, [(0, .ref 48), (1, .int (nI k)), (2, .int (nI 0)), (3, .int (nI (tla T k))), (4, .int (whv (waf T k 24).1)), (5, .int (nI ((waf T k 24).2))), (6, .int (nI 24))], [.int (nI 24), .int (nI 24)], v)) rfl ?_
    refine x_icmpN_ge 102 rfl rfl (by omega) (by omega) (fun h24 => ?_) (fun hn => absurd (Nat.le_refl _) hn)
    refine run_ok 4 (c' := (108, [(0, .ref 48), (1, .int (nI k)), (2, .int (nI 0)), (3, .int (nI (tla T k))), (4, .int (whv (waf T k 24).1)), (5, .int (nI ((waf T k 24).2))), (6, .int (nI 24))], [.int (nI (tla T k)), .int (nI k), .ref 55], v)) rfl ?_
    refine x_isN rfl rfl (by decide) (by omega) ?_
    refine run_ok 1 (c' := (110, [(0, .ref 48), (1, .int (nI k)), (2, .int (nI 0)), (3, .int (nI (tla T k))), (4, .int (whv (waf T k 24).1)), (5, .int (nI ((waf T k 24).2))), (6, .int (nI 24))], [.int (nI 0)], (pt v 55 k (nI (tla T k))))) rfl ?_
    refine x_ifN_ne 118 rfl rfl (by omega) (fun hn => absurd hn (by decide)) (fun _ => ?_)
    refine run_ok 2 (c' := (120, [(0, .ref 48), (1, .int (nI k)), (2, .int (nI 0)), (3, .int (nI (tla T k))), (4, .int (whv (waf T k 24).1)), (5, .int (nI ((waf T k 24).2))), (6, .int (nI 24))], [.int (whv (waf T k 24).1)], (pt v 55 k (nI (tla T k))))) rfl ?_
    exact x_ret (r := some (.int (whv (waf T k 24).1))) rfl rfl trivial ⟨rfl, (hQv.cel (by decide) (by decide))⟩ rfl
  · intro i hi ih v hI hQv
    have q3 := waf_le n8 k i (by omega)
    refine run_ok 2 (c' := (24, [(0, .ref 48), (1, .int (nI k)), (2, .int (nI 0)), (3, .int (nI (tla T k))), (4, .int (whv (waf T k i).1)), (5, .int (nI ((waf T k i).2))), (6, .int (nI i))], [.int (nI 24), .int (nI i)], v)) rfl ?_
    refine x_icmpN_ge 102 rfl rfl (by omega) (by omega) (fun hn => absurd hn (show ¬ 24 ≤ i by omega)) (fun h24 => ?_)
    refine run_ok 4 (c' := (34, [(0, .ref 48), (1, .int (nI k)), (2, .int (nI 0)), (3, .int (nI (tla T k))), (4, .int (whv (waf T k i).1)), (5, .int (nI ((waf T k i).2))), (6, .int (nI i))], [.int (nI i), .int (nI k), .ref 55], v)) rfl ?_
    refine x_isN rfl rfl (by decide) (by omega) ?_
    refine run_ok 1 (c' := (36, [(0, .ref 48), (1, .int (nI k)), (2, .int (nI 0)), (3, .int (nI (tla T k))), (4, .int (whv (waf T k i).1)), (5, .int (nI ((waf T k i).2))), (6, .int (nI i))], [.ref 48], (pt v 55 k (nI i)))) rfl ?_
    refine x_callV [] rfl cv_R_runs.1 lk_7_223 cv_R_runs.2.1 cv_R_runs.2.2.1 rfl cv_R_runs.2.2.2.1 rfl rfl (Nat.le_of_ble_eq_true rfl) (by decide) cv_R_runs.2.2.2.2 (m_runs (pt v 55 k (nI i)) (wla T (upn (tla T) k i)) hI.ev (tok_wla hto (by omega))) ?_
    rintro r u2 ⟨hr, hMu2, hCu2, hTu2, hfu2, h8u2, h2u2⟩
    rw [hr]
    clear hr r
    have hQu2 : QM S u2 := (hQv.cel (by decide) (by decide)).tr (QM.of hfu2 h8u2 h2u2 (by decide) (by decide))
    refine run_ok 3 (c' := (43, [(0, .ref 48), (1, .int (nI k)), (2, .int (nI 0)), (3, .int (nI (tla T k))), (4, .int (whv (waf T k i).1)), (5, .int (nI ((waf T k i).2))), (6, .int (nI i))], [.int (nI 2), .int (nI 23), .ref 48], u2)) rfl ?_
    refine x_callV [.int (nI 23), .int (nI 2)] rfl cv_R_manyAt.1 lk_7_235 cv_R_manyAt.2.1 cv_R_manyAt.2.2.1 rfl cv_R_manyAt.2.2.2.1 rfl rfl (Nat.le_of_ble_eq_true rfl) (by decide) cv_R_manyAt.2.2.2.2 (m_manyAt u2 (wla T (upn (tla T) k i)) hTu2 hCu2 (tok_wla hto (by omega)) 23 2 (by decide) (by decide)) ?_
    rintro r z ⟨hr, hu⟩
    rw [hr, hu]
    clear hr hu r z
    have q5 := cnt_le (fun j => decide (vis (vo (wla T (upn (tla T) k i)) 24) j = 2)) (tnb T)
    refine run_ok 3 (c' := (51, [(0, .ref 48), (1, .int (nI k)), (2, .int (nI 0)), (3, .int (nI (tla T k))), (4, .int (whv (waf T k i).1)), (5, .int (nI ((waf T k i).2))), (6, .int (nI i)), (7, .int (nI (cnt (fun j => decide (vis (vo (wla T (upn (tla T) k i)) 24) j = 2)) (tnb T))))], [.int (-1), .int (whv (waf T k i).1)], u2)) rfl ?_
    refine x_icmp_eq 61 rfl rfl (fun h51 => ?_) (fun h51 => ?_)
    · refine run_ok 4 (c' := (70, [(0, .ref 48), (1, .int (nI k)), (2, .int (nI 0)), (3, .int (nI (tla T k))), (4, .int (whv (waf T k i).1)), (5, .int (nI ((waf T k i).2))), (6, .int (nI i)), (7, .int (nI (cnt (fun j => decide (vis (vo (wla T (upn (tla T) k i)) 24) j = 2)) (tnb T)))), (8, .int (nI 1))], [.int (nI 1)], u2)) rfl ?_
      refine x_ifN_eq 78 rfl rfl (by omega) (fun hn => absurd hn (by decide)) (fun _ => ?_)
      refine run_ok 4 (c' := (84, [(0, .ref 48), (1, .int (nI k)), (2, .int (nI 0)), (3, .int (nI (tla T k))), (4, .int (nI i)), (5, .int (nI ((waf T k i).2))), (6, .int (nI i)), (7, .int (nI (cnt (fun j => decide (vis (vo (wla T (upn (tla T) k i)) 24) j = 2)) (tnb T)))), (8, .int (nI 1))], [.int (nI 1)], u2)) rfl ?_
      refine x_ifN_eq 92 rfl rfl (by omega) (fun hn => absurd hn (by decide)) (fun _ => ?_)
      refine run_ok 4 (c' := (99, [(0, .ref 48), (1, .int (nI k)), (2, .int (nI 0)), (3, .int (nI (tla T k))), (4, .int (nI i)), (5, .int (nI (cnt (fun j => decide (vis (vo (wla T (upn (tla T) k i)) 24) j = 2)) (tnb T)))), (6, .int (nI i + nI 1)), (7, .int (nI (cnt (fun j => decide (vis (vo (wla T (upn (tla T) k i)) 24) j = 2)) (tnb T)))), (8, .int (nI 1))], [], u2)) rfl ?_
      rw [nI_add i 1]
      refine run_ok 1 (c' := (20, [(0, .ref 48), (1, .int (nI k)), (2, .int (nI 0)), (3, .int (nI (tla T k))), (4, .int (nI i)), (5, .int (nI (cnt (fun j => decide (vis (vo (wla T (upn (tla T) k i)) 24) j = 2)) (tnb T)))), (6, .int (nI (i + 1))), (7, .int (nI (cnt (fun j => decide (vis (vo (wla T (upn (tla T) k i)) 24) j = 2)) (tnb T)))), (8, .int (nI 1))], [], u2)) rfl ?_
      refine x_less [0, 1, 2, 3, 4, 5, 6] rfl ?_
      rw [show waf T k (i + 1) = (i, cnt (fun j => decide (vis (vo (wla T (upn (tla T) k i)) 24) j = 2)) (tnb T)) from bdn_s (by first | exact Or.inl ((whv_n1 (by omega)).mp h51) | exact Or.inr (Nat.lt_of_not_le h58))] at ih
      rw [show whv (i, cnt (fun j => decide (vis (vo (wla T (upn (tla T) k i)) 24) j = 2)) (tnb T)).1 = nI i from whv_lt (by show i < 99; omega)] at ih
      exact ih _ ⟨i, hTu2⟩ hQu2
    · refine run_ok 2 (c' := (58, [(0, .ref 48), (1, .int (nI k)), (2, .int (nI 0)), (3, .int (nI (tla T k))), (4, .int (whv (waf T k i).1)), (5, .int (nI ((waf T k i).2))), (6, .int (nI i)), (7, .int (nI (cnt (fun j => decide (vis (vo (wla T (upn (tla T) k i)) 24) j = 2)) (tnb T))))], [.int (nI ((waf T k i).2)), .int (nI (cnt (fun j => decide (vis (vo (wla T (upn (tla T) k i)) 24) j = 2)) (tnb T)))], u2)) rfl ?_
      refine x_icmpN_ge 65 rfl rfl (by omega) (by omega) (fun h58 => ?_) (fun h58 => ?_)
      · refine run_ok 3 (c' := (70, [(0, .ref 48), (1, .int (nI k)), (2, .int (nI 0)), (3, .int (nI (tla T k))), (4, .int (whv (waf T k i).1)), (5, .int (nI ((waf T k i).2))), (6, .int (nI i)), (7, .int (nI (cnt (fun j => decide (vis (vo (wla T (upn (tla T) k i)) 24) j = 2)) (tnb T)))), (8, .int (nI 0))], [.int (nI 0)], u2)) rfl ?_
        refine x_ifN_eq 78 rfl rfl (by omega) (fun _ => ?_) (fun hn => absurd hn (by decide))
        refine run_ok 3 (c' := (84, [(0, .ref 48), (1, .int (nI k)), (2, .int (nI 0)), (3, .int (nI (tla T k))), (4, .int (whv (waf T k i).1)), (5, .int (nI ((waf T k i).2))), (6, .int (nI i)), (7, .int (nI (cnt (fun j => decide (vis (vo (wla T (upn (tla T) k i)) 24) j = 2)) (tnb T)))), (8, .int (nI 0))], [.int (nI 0)], u2)) rfl ?_
        refine x_ifN_eq 92 rfl rfl (by omega) (fun _ => ?_) (fun hn => absurd hn (by decide))
        refine run_ok 3 (c' := (99, [(0, .ref 48), (1, .int (nI k)), (2, .int (nI 0)), (3, .int (nI (tla T k))), (4, .int (whv (waf T k i).1)), (5, .int (nI ((waf T k i).2))), (6, .int (nI i + nI 1)), (7, .int (nI (cnt (fun j => decide (vis (vo (wla T (upn (tla T) k i)) 24) j = 2)) (tnb T)))), (8, .int (nI 0))], [], u2)) rfl ?_
        rw [nI_add i 1]
        refine run_ok 1 (c' := (20, [(0, .ref 48), (1, .int (nI k)), (2, .int (nI 0)), (3, .int (nI (tla T k))), (4, .int (whv (waf T k i).1)), (5, .int (nI ((waf T k i).2))), (6, .int (nI (i + 1))), (7, .int (nI (cnt (fun j => decide (vis (vo (wla T (upn (tla T) k i)) 24) j = 2)) (tnb T)))), (8, .int (nI 0))], [], u2)) rfl ?_
        refine x_less [0, 1, 2, 3, 4, 5, 6] rfl ?_
        rw [show waf T k (i + 1) = waf T k i from bdn_z (fun z => z.elim (fun z => h51 ((whv_n1 (by omega)).mpr z)) (fun z => absurd h58 (Nat.not_le_of_lt z)))] at ih
        exact ih _ ⟨i, hTu2⟩ hQu2
      · refine run_ok 4 (c' := (70, [(0, .ref 48), (1, .int (nI k)), (2, .int (nI 0)), (3, .int (nI (tla T k))), (4, .int (whv (waf T k i).1)), (5, .int (nI ((waf T k i).2))), (6, .int (nI i)), (7, .int (nI (cnt (fun j => decide (vis (vo (wla T (upn (tla T) k i)) 24) j = 2)) (tnb T)))), (8, .int (nI 1))], [.int (nI 1)], u2)) rfl ?_
        refine x_ifN_eq 78 rfl rfl (by omega) (fun hn => absurd hn (by decide)) (fun _ => ?_)
        refine run_ok 4 (c' := (84, [(0, .ref 48), (1, .int (nI k)), (2, .int (nI 0)), (3, .int (nI (tla T k))), (4, .int (nI i)), (5, .int (nI ((waf T k i).2))), (6, .int (nI i)), (7, .int (nI (cnt (fun j => decide (vis (vo (wla T (upn (tla T) k i)) 24) j = 2)) (tnb T)))), (8, .int (nI 1))], [.int (nI 1)], u2)) rfl ?_
        refine x_ifN_eq 92 rfl rfl (by omega) (fun hn => absurd hn (by decide)) (fun _ => ?_)
        refine run_ok 4 (c' := (99, [(0, .ref 48), (1, .int (nI k)), (2, .int (nI 0)), (3, .int (nI (tla T k))), (4, .int (nI i)), (5, .int (nI (cnt (fun j => decide (vis (vo (wla T (upn (tla T) k i)) 24) j = 2)) (tnb T)))), (6, .int (nI i + nI 1)), (7, .int (nI (cnt (fun j => decide (vis (vo (wla T (upn (tla T) k i)) 24) j = 2)) (tnb T)))), (8, .int (nI 1))], [], u2)) rfl ?_
        rw [nI_add i 1]
        refine run_ok 1 (c' := (20, [(0, .ref 48), (1, .int (nI k)), (2, .int (nI 0)), (3, .int (nI (tla T k))), (4, .int (nI i)), (5, .int (nI (cnt (fun j => decide (vis (vo (wla T (upn (tla T) k i)) 24) j = 2)) (tnb T)))), (6, .int (nI (i + 1))), (7, .int (nI (cnt (fun j => decide (vis (vo (wla T (upn (tla T) k i)) 24) j = 2)) (tnb T)))), (8, .int (nI 1))], [], u2)) rfl ?_
        refine x_less [0, 1, 2, 3, 4, 5, 6] rfl ?_
        rw [show waf T k (i + 1) = (i, cnt (fun j => decide (vis (vo (wla T (upn (tla T) k i)) 24) j = 2)) (tnb T)) from bdn_s (by first | exact Or.inl ((whv_n1 (by omega)).mp h51) | exact Or.inr (Nat.lt_of_not_le h58))] at ih
        rw [show whv (i, cnt (fun j => decide (vis (vo (wla T (upn (tla T) k i)) 24) j = 2)) (tnb T)).1 = nI i from whv_lt (by show i < 99; omega)] at ih
        exact ih _ ⟨i, hTu2⟩ hQu2

set_option maxHeartbeats 2000000 in
theorem m_waits_ok0 (S : ST) (T : TD) (n : Nat) (b : Nat → Nat) (n' : Nat) (b' : Nat → Nat) (hL : ML T n b n' b' S) (hto : tok T) (k : Nat) (hk : k < tnb T) : EX me_R_waits 8 [.ref 48, .int (nI k), .int (nI 0)] S (fun r u => r = some (.int (whv (waf T k 24).1)) ∧ QM S u) := by
  refine EX.of mok_R_waits (Nat.le_of_ble_eq_true rfl) ?_
  have n8 := hto.1
  refine run_ok 2 (c' := (2, [(0, .ref 48), (1, .int (nI k)), (2, .int (nI 0))], [.int (nI k), .ref 48], S)) rfl ?_
  refine x_callV [.int (nI k)] rfl cv_R_isBoat.1 lk_7_163 cv_R_isBoat.2.1 cv_R_isBoat.2.2.1 rfl cv_R_isBoat.2.2.2.1 rfl rfl (Nat.le_of_ble_eq_true rfl) (by decide) cv_R_isBoat.2.2.2.2 (m_isBoat S T n b n' b' (hL.stay QM.rf) hto (nI k)) ?_
  rintro r u1 ⟨hr, hRu1, hqu1⟩
  rw [hr]
  clear hr r
  have hQu1 : QM S u1 := QM.rf.tr hqu1
  refine x_ifB_eq 24 rfl rfl (fun hn => absurd hn (fun z => z (inr_t hk (by omega)))) (fun h5 => ?_)
  refine run_ok 1 (c' := (9, [(0, .ref 48), (1, .int (nI k)), (2, .int (nI 0))], [.int (nI 0)], u1)) rfl ?_
  refine x_callS [.int (nI 0)] rfl cs_R_isTwo.1 lk_7_241 cs_R_isTwo.2.1 rfl rfl (Nat.le_of_ble_eq_true rfl) (by decide) cs_R_isTwo.2.2 (m_isTwo u1 (nI 0)) ?_
  rintro r u ⟨hr, hu⟩
  rw [hr, hu]
  clear hr hu r u
  refine x_ifB_eq 24 rfl rfl (fun hn => absurd hn (fun z => z (inr_t (by decide) (by decide)))) (fun h12 => ?_)
  refine run_ok 3 (c' := (18, [(0, .ref 48), (1, .int (nI k)), (2, .int (nI 0))], [.int (nI 0), .int (nI k), .ref 48], u1)) rfl ?_
  refine x_callV [.int (nI k), .int (nI 0)] rfl cv_R_waitsOf.1 lk_7_272 cv_R_waitsOf.2.1 cv_R_waitsOf.2.2.1 rfl cv_R_waitsOf.2.2.2.1 rfl rfl (Nat.le_of_ble_eq_true rfl) (by decide) cv_R_waitsOf.2.2.2.2 (m_waitsOf0 u1 T n b n' b' (hL.stay hQu1) hto k hk) ?_
  rintro r u2 ⟨hr, hqu2⟩
  rw [hr]
  clear hr r
  have hQu2 : QM S u2 := hQu1.tr hqu2
  refine run_ok 1 (c' := (26, [(0, .ref 48), (1, .int (nI k)), (2, .int (nI 0))], [.int (whv (waf T k 24).1)], u2)) rfl ?_
  exact x_ret (r := some (.int (whv (waf T k 24).1))) rfl rfl trivial ⟨rfl, hQu2⟩ rfl

set_option maxHeartbeats 2000000 in
theorem m_waitsOf1 (S : ST) (T : TD) (n : Nat) (b : Nat → Nat) (n' : Nat) (b' : Nat → Nat) (hL : ML T n b n' b' S) (hto : tok T) (k : Nat) (hk : k < tnb T) : EX me_R_waitsOf 7 [.ref 48, .int (nI k), .int (nI 1)] S (fun r u => r = some (.int (nI (waf T k 24).2)) ∧ QM S u) := by
  refine EX.of mok_R_waitsOf (Nat.le_of_ble_eq_true rfl) ?_
  have n8 := hto.1
  refine run_ok 1 (c' := (1, [(0, .ref 48), (1, .int (nI k)), (2, .int (nI 1))], [.ref 48], S)) rfl ?_
  refine x_callV [] rfl cv_R_asTold.1 lk_7_220 cv_R_asTold.2.1 cv_R_asTold.2.2.1 rfl cv_R_asTold.2.2.2.1 rfl rfl (Nat.le_of_ble_eq_true rfl) (by decide) cv_R_asTold.2.2.2.2 (m_asTold S T n b n' b' (hL.stay QM.rf) hto) ?_
  rintro r u1 ⟨hr, hTu1, hRu1, hqu1⟩
  rw [hr]
  clear hr r
  have hQu1 : QM S u1 := QM.rf.tr hqu1
  obtain ⟨t1, t2, t3, t4, t5, t6, t7, t8, t9, t10, t11⟩ := id hTu1
  refine run_ok 3 (c' := (9, [(0, .ref 48), (1, .int (nI k)), (2, .int (nI 1))], [.int (nI k), .ref 55], u1)) rfl ?_
  refine x_iaN (nI (tla T k)) rfl rfl (by decide) (by omega) (t4 k (by omega)) ?_
  refine run_ok 7 (c' := (20, [(0, .ref 48), (1, .int (nI k)), (2, .int (nI 1)), (3, .int (nI (tla T k))), (4, .int (-1)), (5, .int (nI 0)), (6, .int (nI 0))], [], u1)) rfl ?_
  refine loop_up (P := fun i => ∀ v : ST, WI T k v → QM S v → BX me_R_waitsOf 7 none (fun r u => r = some (.int (nI (waf T k 24).2)) ∧ QM S u) (20, [(0, .ref 48), (1, .int (nI k)), (2, .int (nI 1)), (3, .int (nI (tla T k))), (4, .int (whv (waf T k i).1)), (5, .int (nI ((waf T k i).2))), (6, .int (nI i))], [], v)) (24) ?_ ?_ 0 (by omega) _ hTu1.wi hQu1
  · intro v hI hQv
    refine run_ok 2 (c' := (24, [(0, .ref 48), (1, .int (nI k)), (2, .int (nI 1)), (3, .int (nI (tla T k))), (4, .int (whv (waf T k 24).1)), (5, .int (nI ((waf T k 24).2))), (6, .int (nI 24))], [.int (nI 24), .int (nI 24)], v)) rfl ?_
    refine x_icmpN_ge 102 rfl rfl (by omega) (by omega) (fun h24 => ?_) (fun hn => absurd (Nat.le_refl _) hn)
    refine run_ok 4 (c' := (108, [(0, .ref 48), (1, .int (nI k)), (2, .int (nI 1)), (3, .int (nI (tla T k))), (4, .int (whv (waf T k 24).1)), (5, .int (nI ((waf T k 24).2))), (6, .int (nI 24))], [.int (nI (tla T k)), .int (nI k), .ref 55], v)) rfl ?_
    refine x_isN rfl rfl (by decide) (by omega) ?_
    refine run_ok 1 (c' := (110, [(0, .ref 48), (1, .int (nI k)), (2, .int (nI 1)), (3, .int (nI (tla T k))), (4, .int (whv (waf T k 24).1)), (5, .int (nI ((waf T k 24).2))), (6, .int (nI 24))], [.int (nI 1)], (pt v 55 k (nI (tla T k))))) rfl ?_
    refine x_ifN_ne 118 rfl rfl (by omega) (fun _ => ?_) (fun hn => absurd hn (by decide))
    refine run_ok 1 (c' := (120, [(0, .ref 48), (1, .int (nI k)), (2, .int (nI 1)), (3, .int (nI (tla T k))), (4, .int (whv (waf T k 24).1)), (5, .int (nI ((waf T k 24).2))), (6, .int (nI 24))], [.int (nI ((waf T k 24).2))], (pt v 55 k (nI (tla T k))))) rfl ?_
    exact x_ret (r := some (.int (nI ((waf T k 24).2)))) rfl rfl trivial ⟨rfl, (hQv.cel (by decide) (by decide))⟩ rfl
  · intro i hi ih v hI hQv
    have q3 := waf_le n8 k i (by omega)
    refine run_ok 2 (c' := (24, [(0, .ref 48), (1, .int (nI k)), (2, .int (nI 1)), (3, .int (nI (tla T k))), (4, .int (whv (waf T k i).1)), (5, .int (nI ((waf T k i).2))), (6, .int (nI i))], [.int (nI 24), .int (nI i)], v)) rfl ?_
    refine x_icmpN_ge 102 rfl rfl (by omega) (by omega) (fun hn => absurd hn (show ¬ 24 ≤ i by omega)) (fun h24 => ?_)
    refine run_ok 4 (c' := (34, [(0, .ref 48), (1, .int (nI k)), (2, .int (nI 1)), (3, .int (nI (tla T k))), (4, .int (whv (waf T k i).1)), (5, .int (nI ((waf T k i).2))), (6, .int (nI i))], [.int (nI i), .int (nI k), .ref 55], v)) rfl ?_
    refine x_isN rfl rfl (by decide) (by omega) ?_
    refine run_ok 1 (c' := (36, [(0, .ref 48), (1, .int (nI k)), (2, .int (nI 1)), (3, .int (nI (tla T k))), (4, .int (whv (waf T k i).1)), (5, .int (nI ((waf T k i).2))), (6, .int (nI i))], [.ref 48], (pt v 55 k (nI i)))) rfl ?_
    refine x_callV [] rfl cv_R_runs.1 lk_7_223 cv_R_runs.2.1 cv_R_runs.2.2.1 rfl cv_R_runs.2.2.2.1 rfl rfl (Nat.le_of_ble_eq_true rfl) (by decide) cv_R_runs.2.2.2.2 (m_runs (pt v 55 k (nI i)) (wla T (upn (tla T) k i)) hI.ev (tok_wla hto (by omega))) ?_
    rintro r u2 ⟨hr, hMu2, hCu2, hTu2, hfu2, h8u2, h2u2⟩
    rw [hr]
    clear hr r
    have hQu2 : QM S u2 := (hQv.cel (by decide) (by decide)).tr (QM.of hfu2 h8u2 h2u2 (by decide) (by decide))
    refine run_ok 3 (c' := (43, [(0, .ref 48), (1, .int (nI k)), (2, .int (nI 1)), (3, .int (nI (tla T k))), (4, .int (whv (waf T k i).1)), (5, .int (nI ((waf T k i).2))), (6, .int (nI i))], [.int (nI 2), .int (nI 23), .ref 48], u2)) rfl ?_
    refine x_callV [.int (nI 23), .int (nI 2)] rfl cv_R_manyAt.1 lk_7_235 cv_R_manyAt.2.1 cv_R_manyAt.2.2.1 rfl cv_R_manyAt.2.2.2.1 rfl rfl (Nat.le_of_ble_eq_true rfl) (by decide) cv_R_manyAt.2.2.2.2 (m_manyAt u2 (wla T (upn (tla T) k i)) hTu2 hCu2 (tok_wla hto (by omega)) 23 2 (by decide) (by decide)) ?_
    rintro r z ⟨hr, hu⟩
    rw [hr, hu]
    clear hr hu r z
    have q5 := cnt_le (fun j => decide (vis (vo (wla T (upn (tla T) k i)) 24) j = 2)) (tnb T)
    refine run_ok 3 (c' := (51, [(0, .ref 48), (1, .int (nI k)), (2, .int (nI 1)), (3, .int (nI (tla T k))), (4, .int (whv (waf T k i).1)), (5, .int (nI ((waf T k i).2))), (6, .int (nI i)), (7, .int (nI (cnt (fun j => decide (vis (vo (wla T (upn (tla T) k i)) 24) j = 2)) (tnb T))))], [.int (-1), .int (whv (waf T k i).1)], u2)) rfl ?_
    refine x_icmp_eq 61 rfl rfl (fun h51 => ?_) (fun h51 => ?_)
    · refine run_ok 4 (c' := (70, [(0, .ref 48), (1, .int (nI k)), (2, .int (nI 1)), (3, .int (nI (tla T k))), (4, .int (whv (waf T k i).1)), (5, .int (nI ((waf T k i).2))), (6, .int (nI i)), (7, .int (nI (cnt (fun j => decide (vis (vo (wla T (upn (tla T) k i)) 24) j = 2)) (tnb T)))), (8, .int (nI 1))], [.int (nI 1)], u2)) rfl ?_
      refine x_ifN_eq 78 rfl rfl (by omega) (fun hn => absurd hn (by decide)) (fun _ => ?_)
      refine run_ok 4 (c' := (84, [(0, .ref 48), (1, .int (nI k)), (2, .int (nI 1)), (3, .int (nI (tla T k))), (4, .int (nI i)), (5, .int (nI ((waf T k i).2))), (6, .int (nI i)), (7, .int (nI (cnt (fun j => decide (vis (vo (wla T (upn (tla T) k i)) 24) j = 2)) (tnb T)))), (8, .int (nI 1))], [.int (nI 1)], u2)) rfl ?_
      refine x_ifN_eq 92 rfl rfl (by omega) (fun hn => absurd hn (by decide)) (fun _ => ?_)
      refine run_ok 4 (c' := (99, [(0, .ref 48), (1, .int (nI k)), (2, .int (nI 1)), (3, .int (nI (tla T k))), (4, .int (nI i)), (5, .int (nI (cnt (fun j => decide (vis (vo (wla T (upn (tla T) k i)) 24) j = 2)) (tnb T)))), (6, .int (nI i + nI 1)), (7, .int (nI (cnt (fun j => decide (vis (vo (wla T (upn (tla T) k i)) 24) j = 2)) (tnb T)))), (8, .int (nI 1))], [], u2)) rfl ?_
      rw [nI_add i 1]
      refine run_ok 1 (c' := (20, [(0, .ref 48), (1, .int (nI k)), (2, .int (nI 1)), (3, .int (nI (tla T k))), (4, .int (nI i)), (5, .int (nI (cnt (fun j => decide (vis (vo (wla T (upn (tla T) k i)) 24) j = 2)) (tnb T)))), (6, .int (nI (i + 1))), (7, .int (nI (cnt (fun j => decide (vis (vo (wla T (upn (tla T) k i)) 24) j = 2)) (tnb T)))), (8, .int (nI 1))], [], u2)) rfl ?_
      refine x_less [0, 1, 2, 3, 4, 5, 6] rfl ?_
      rw [show waf T k (i + 1) = (i, cnt (fun j => decide (vis (vo (wla T (upn (tla T) k i)) 24) j = 2)) (tnb T)) from bdn_s (by first | exact Or.inl ((whv_n1 (by omega)).mp h51) | exact Or.inr (Nat.lt_of_not_le h58))] at ih
      rw [show whv (i, cnt (fun j => decide (vis (vo (wla T (upn (tla T) k i)) 24) j = 2)) (tnb T)).1 = nI i from whv_lt (by show i < 99; omega)] at ih
      exact ih _ ⟨i, hTu2⟩ hQu2
    · refine run_ok 2 (c' := (58, [(0, .ref 48), (1, .int (nI k)), (2, .int (nI 1)), (3, .int (nI (tla T k))), (4, .int (whv (waf T k i).1)), (5, .int (nI ((waf T k i).2))), (6, .int (nI i)), (7, .int (nI (cnt (fun j => decide (vis (vo (wla T (upn (tla T) k i)) 24) j = 2)) (tnb T))))], [.int (nI ((waf T k i).2)), .int (nI (cnt (fun j => decide (vis (vo (wla T (upn (tla T) k i)) 24) j = 2)) (tnb T)))], u2)) rfl ?_
      refine x_icmpN_ge 65 rfl rfl (by omega) (by omega) (fun h58 => ?_) (fun h58 => ?_)
      · refine run_ok 3 (c' := (70, [(0, .ref 48), (1, .int (nI k)), (2, .int (nI 1)), (3, .int (nI (tla T k))), (4, .int (whv (waf T k i).1)), (5, .int (nI ((waf T k i).2))), (6, .int (nI i)), (7, .int (nI (cnt (fun j => decide (vis (vo (wla T (upn (tla T) k i)) 24) j = 2)) (tnb T)))), (8, .int (nI 0))], [.int (nI 0)], u2)) rfl ?_
        refine x_ifN_eq 78 rfl rfl (by omega) (fun _ => ?_) (fun hn => absurd hn (by decide))
        refine run_ok 3 (c' := (84, [(0, .ref 48), (1, .int (nI k)), (2, .int (nI 1)), (3, .int (nI (tla T k))), (4, .int (whv (waf T k i).1)), (5, .int (nI ((waf T k i).2))), (6, .int (nI i)), (7, .int (nI (cnt (fun j => decide (vis (vo (wla T (upn (tla T) k i)) 24) j = 2)) (tnb T)))), (8, .int (nI 0))], [.int (nI 0)], u2)) rfl ?_
        refine x_ifN_eq 92 rfl rfl (by omega) (fun _ => ?_) (fun hn => absurd hn (by decide))
        refine run_ok 3 (c' := (99, [(0, .ref 48), (1, .int (nI k)), (2, .int (nI 1)), (3, .int (nI (tla T k))), (4, .int (whv (waf T k i).1)), (5, .int (nI ((waf T k i).2))), (6, .int (nI i + nI 1)), (7, .int (nI (cnt (fun j => decide (vis (vo (wla T (upn (tla T) k i)) 24) j = 2)) (tnb T)))), (8, .int (nI 0))], [], u2)) rfl ?_
        rw [nI_add i 1]
        refine run_ok 1 (c' := (20, [(0, .ref 48), (1, .int (nI k)), (2, .int (nI 1)), (3, .int (nI (tla T k))), (4, .int (whv (waf T k i).1)), (5, .int (nI ((waf T k i).2))), (6, .int (nI (i + 1))), (7, .int (nI (cnt (fun j => decide (vis (vo (wla T (upn (tla T) k i)) 24) j = 2)) (tnb T)))), (8, .int (nI 0))], [], u2)) rfl ?_
        refine x_less [0, 1, 2, 3, 4, 5, 6] rfl ?_
        rw [show waf T k (i + 1) = waf T k i from bdn_z (fun z => z.elim (fun z => h51 ((whv_n1 (by omega)).mpr z)) (fun z => absurd h58 (Nat.not_le_of_lt z)))] at ih
        exact ih _ ⟨i, hTu2⟩ hQu2
      · refine run_ok 4 (c' := (70, [(0, .ref 48), (1, .int (nI k)), (2, .int (nI 1)), (3, .int (nI (tla T k))), (4, .int (whv (waf T k i).1)), (5, .int (nI ((waf T k i).2))), (6, .int (nI i)), (7, .int (nI (cnt (fun j => decide (vis (vo (wla T (upn (tla T) k i)) 24) j = 2)) (tnb T)))), (8, .int (nI 1))], [.int (nI 1)], u2)) rfl ?_
        refine x_ifN_eq 78 rfl rfl (by omega) (fun hn => absurd hn (by decide)) (fun _ => ?_)
        refine run_ok 4 (c' := (84, [(0, .ref 48), (1, .int (nI k)), (2, .int (nI 1)), (3, .int (nI (tla T k))), (4, .int (nI i)), (5, .int (nI ((waf T k i).2))), (6, .int (nI i)), (7, .int (nI (cnt (fun j => decide (vis (vo (wla T (upn (tla T) k i)) 24) j = 2)) (tnb T)))), (8, .int (nI 1))], [.int (nI 1)], u2)) rfl ?_
        refine x_ifN_eq 92 rfl rfl (by omega) (fun hn => absurd hn (by decide)) (fun _ => ?_)
        refine run_ok 4 (c' := (99, [(0, .ref 48), (1, .int (nI k)), (2, .int (nI 1)), (3, .int (nI (tla T k))), (4, .int (nI i)), (5, .int (nI (cnt (fun j => decide (vis (vo (wla T (upn (tla T) k i)) 24) j = 2)) (tnb T)))), (6, .int (nI i + nI 1)), (7, .int (nI (cnt (fun j => decide (vis (vo (wla T (upn (tla T) k i)) 24) j = 2)) (tnb T)))), (8, .int (nI 1))], [], u2)) rfl ?_
        rw [nI_add i 1]
        refine run_ok 1 (c' := (20, [(0, .ref 48), (1, .int (nI k)), (2, .int (nI 1)), (3, .int (nI (tla T k))), (4, .int (nI i)), (5, .int (nI (cnt (fun j => decide (vis (vo (wla T (upn (tla T) k i)) 24) j = 2)) (tnb T)))), (6, .int (nI (i + 1))), (7, .int (nI (cnt (fun j => decide (vis (vo (wla T (upn (tla T) k i)) 24) j = 2)) (tnb T)))), (8, .int (nI 1))], [], u2)) rfl ?_
        refine x_less [0, 1, 2, 3, 4, 5, 6] rfl ?_
        rw [show waf T k (i + 1) = (i, cnt (fun j => decide (vis (vo (wla T (upn (tla T) k i)) 24) j = 2)) (tnb T)) from bdn_s (by first | exact Or.inl ((whv_n1 (by omega)).mp h51) | exact Or.inr (Nat.lt_of_not_le h58))] at ih
        rw [show whv (i, cnt (fun j => decide (vis (vo (wla T (upn (tla T) k i)) 24) j = 2)) (tnb T)).1 = nI i from whv_lt (by show i < 99; omega)] at ih
        exact ih _ ⟨i, hTu2⟩ hQu2

set_option maxHeartbeats 2000000 in
theorem m_waits_ok1 (S : ST) (T : TD) (n : Nat) (b : Nat → Nat) (n' : Nat) (b' : Nat → Nat) (hL : ML T n b n' b' S) (hto : tok T) (k : Nat) (hk : k < tnb T) : EX me_R_waits 8 [.ref 48, .int (nI k), .int (nI 1)] S (fun r u => r = some (.int (nI (waf T k 24).2)) ∧ QM S u) := by
  refine EX.of mok_R_waits (Nat.le_of_ble_eq_true rfl) ?_
  have n8 := hto.1
  refine run_ok 2 (c' := (2, [(0, .ref 48), (1, .int (nI k)), (2, .int (nI 1))], [.int (nI k), .ref 48], S)) rfl ?_
  refine x_callV [.int (nI k)] rfl cv_R_isBoat.1 lk_7_163 cv_R_isBoat.2.1 cv_R_isBoat.2.2.1 rfl cv_R_isBoat.2.2.2.1 rfl rfl (Nat.le_of_ble_eq_true rfl) (by decide) cv_R_isBoat.2.2.2.2 (m_isBoat S T n b n' b' (hL.stay QM.rf) hto (nI k)) ?_
  rintro r u1 ⟨hr, hRu1, hqu1⟩
  rw [hr]
  clear hr r
  have hQu1 : QM S u1 := QM.rf.tr hqu1
  refine x_ifB_eq 24 rfl rfl (fun hn => absurd hn (fun z => z (inr_t hk (by omega)))) (fun h5 => ?_)
  refine run_ok 1 (c' := (9, [(0, .ref 48), (1, .int (nI k)), (2, .int (nI 1))], [.int (nI 1)], u1)) rfl ?_
  refine x_callS [.int (nI 1)] rfl cs_R_isTwo.1 lk_7_241 cs_R_isTwo.2.1 rfl rfl (Nat.le_of_ble_eq_true rfl) (by decide) cs_R_isTwo.2.2 (m_isTwo u1 (nI 1)) ?_
  rintro r u ⟨hr, hu⟩
  rw [hr, hu]
  clear hr hu r u
  refine x_ifB_eq 24 rfl rfl (fun hn => absurd hn (fun z => z (inr_t (by decide) (by decide)))) (fun h12 => ?_)
  refine run_ok 3 (c' := (18, [(0, .ref 48), (1, .int (nI k)), (2, .int (nI 1))], [.int (nI 1), .int (nI k), .ref 48], u1)) rfl ?_
  refine x_callV [.int (nI k), .int (nI 1)] rfl cv_R_waitsOf.1 lk_7_272 cv_R_waitsOf.2.1 cv_R_waitsOf.2.2.1 rfl cv_R_waitsOf.2.2.2.1 rfl rfl (Nat.le_of_ble_eq_true rfl) (by decide) cv_R_waitsOf.2.2.2.2 (m_waitsOf1 u1 T n b n' b' (hL.stay hQu1) hto k hk) ?_
  rintro r u2 ⟨hr, hqu2⟩
  rw [hr]
  clear hr r
  have hQu2 : QM S u2 := hQu1.tr hqu2
  refine run_ok 1 (c' := (26, [(0, .ref 48), (1, .int (nI k)), (2, .int (nI 1))], [.int (nI (waf T k 24).2)], u2)) rfl ?_
  exact x_ret (r := some (.int (nI (waf T k 24).2))) rfl rfl trivial ⟨rfl, hQu2⟩ rfl

set_option maxHeartbeats 2000000 in
theorem m_waits_bad (S : ST) (T : TD) (n : Nat) (b : Nat → Nat) (n' : Nat) (b' : Nat → Nat) (hL : ML T n b n' b' S) (hto : tok T) (x y : Int32) (hbad : ¬ ((0 ≤ x ∧ x < nI (tnb T)) ∧ (0 ≤ y ∧ y < nI 2))) : EX me_R_waits 8 [.ref 48, .int x, .int y] S (fun r u => r = some (.int ((-2))) ∧ QM S u) := by
  refine EX.of mok_R_waits (Nat.le_of_ble_eq_true rfl) ?_
  refine run_ok 2 (c' := (2, [(0, .ref 48), (1, .int x), (2, .int y)], [.int x, .ref 48], S)) rfl ?_
  refine x_callV [.int x] rfl cv_R_isBoat.1 lk_7_163 cv_R_isBoat.2.1 cv_R_isBoat.2.2.1 rfl cv_R_isBoat.2.2.2.1 rfl rfl (Nat.le_of_ble_eq_true rfl) (by decide) cv_R_isBoat.2.2.2.2 (m_isBoat S T n b n' b' (hL.stay QM.rf) hto (x)) ?_
  rintro r u1 ⟨hr, hRu1, hqu1⟩
  rw [hr]
  clear hr r
  have hQu1 : QM S u1 := QM.rf.tr hqu1
  refine x_ifB_eq 24 rfl rfl (fun h5 => ?_) (fun h5 => ?_)
  · refine run_ok 1 (c' := (26, [(0, .ref 48), (1, .int x), (2, .int y)], [.int (-2)], u1)) rfl ?_
    exact x_ret (r := some (.int (-2))) rfl rfl trivial ⟨rfl, hQu1⟩ rfl
  · refine run_ok 1 (c' := (9, [(0, .ref 48), (1, .int x), (2, .int y)], [.int y], u1)) rfl ?_
    refine x_callS [.int y] rfl cs_R_isTwo.1 lk_7_241 cs_R_isTwo.2.1 rfl rfl (Nat.le_of_ble_eq_true rfl) (by decide) cs_R_isTwo.2.2 (m_isTwo u1 (y)) ?_
    rintro r u ⟨hr, hu⟩
    rw [hr, hu]
    clear hr hu r u
    refine x_ifB_eq 24 rfl rfl (fun h12 => ?_) (fun h12 => ?_)
    · refine run_ok 1 (c' := (26, [(0, .ref 48), (1, .int x), (2, .int y)], [.int (-2)], u1)) rfl ?_
      exact x_ret (r := some (.int (-2))) rfl rfl trivial ⟨rfl, hQu1⟩ rfl
    · exact absurd ⟨h5, h12⟩ hbad


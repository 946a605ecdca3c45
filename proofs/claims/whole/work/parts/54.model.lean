/-! the model: the next week to look -/
theorem nro_tb {f : Nat → Nat} : ∀ {n : Nat}, (∀ k, k < n → f k < 16) → ∀ j, (nro f n).testBit j = (decide (j < 4 * n) && (f (j / 4)).testBit (j % 4)) := by
  intro n
  induction n with
  | zero => intro _ j; show Nat.testBit 0 j = _; rw [Nat.zero_testBit, show decide (j < 4 * 0) = false from decide_eq_false (by omega), Bool.false_and]
  | succ n ih =>
    intro h j
    have hl := nro_lt (f := f) (n := n) (fun k hk => h k (by omega))
    show (nro f n + f n * 16 ^ n).testBit j = _
    rw [p16] at hl ⊢
    rw [Nat.add_comm, Nat.mul_comm, Nat.testBit_two_pow_mul_add _ hl]
    by_cases e : j < 4 * n
    · rw [if_pos e, ih (fun k hk => h k (by omega)), decide_eq_true e, decide_eq_true (show j < 4 * (n + 1) by omega)]
    · rw [if_neg e]
      by_cases e2 : j < 4 * (n + 1)
      · rw [decide_eq_true e2, show j / 4 = n by omega, show j % 4 = j - 4 * n by omega, Bool.true_and]
      · rw [decide_eq_false e2, Bool.false_and]
        refine Nat.testBit_lt_two_pow ?_
        have h1 := h n (by omega)
        have h2 : 2 ^ 4 ≤ 2 ^ (j - 4 * n) := Nat.pow_le_pow_right (by decide) (by omega)
        omega
theorem tb4 {a b : Nat} (ha : a < 16) (hb : b < 16) (h : ∀ i, i < 4 → a.testBit i = b.testBit i) : a = b := by
  refine Nat.eq_of_testBit_eq (fun i => ?_)
  by_cases e : i < 4
  · exact h i e
  · have h2 : 2 ^ 4 ≤ 2 ^ i := Nat.pow_le_pow_right (by decide) (by omega)
    rw [Nat.testBit_lt_two_pow (show a < 2 ^ i by omega), Nat.testBit_lt_two_pow (show b < 2 ^ i by omega)]
theorem nro_eq {f g : Nat → Nat} {n : Nat} (hf : ∀ k, k < n → f k < 16) (hg : ∀ k, k < n → g k < 16) : nro f n = nro g n ↔ ∀ k, k < n → f k = g k := by
  constructor
  · intro h k hk
    refine tb4 (hf k hk) (hg k hk) (fun i hi => ?_)
    have a := nro_tb hf (4 * k + i)
    have b := nro_tb hg (4 * k + i)
    rw [decide_eq_true (show 4 * k + i < 4 * n by omega), show (4 * k + i) / 4 = k by omega, show (4 * k + i) % 4 = i by omega, Bool.true_and] at a b
    rw [← a, ← b, h]
  · intro h
    refine Nat.eq_of_testBit_eq (fun j => ?_)
    rw [nro_tb hf, nro_tb hg]
    by_cases e : j < 4 * n
    · rw [h (j / 4) (by omega)]
    · rw [decide_eq_false e, Bool.false_and, Bool.false_and]
theorem tb15 : ∀ i, i < 4 → Nat.testBit 15 i = true := by decide
theorem nro_mask {f g : Nat → Nat} {q : Nat → Prop} [DecidablePred q] {n : Nat} (hf : ∀ k, k < n → f k < 16) (hg : ∀ k, k < n → g k < 16) : (nro f n ^^^ nro g n) &&& nro (fun k => if q k then 15 else 0) n = 0 ↔ ∀ k, k < n → q k → f k = g k := by
  have hm : ∀ k, k < n → (if q k then 15 else 0) < 16 := fun k _ => by split <;> omega
  constructor
  · intro h k hk hq
    refine tb4 (hf k hk) (hg k hk) (fun i hi => ?_)
    have t : ((nro f n ^^^ nro g n) &&& nro (fun k => if q k then 15 else 0) n).testBit (4 * k + i) = false := by rw [h, Nat.zero_testBit]
    rw [Nat.testBit_and, Nat.testBit_xor, nro_tb hf, nro_tb hg, nro_tb (f := fun k => if q k then 15 else 0) hm, decide_eq_true (show 4 * k + i < 4 * n by omega), show (4 * k + i) / 4 = k by omega, show (4 * k + i) % 4 = i by omega, if_pos hq, tb15 i hi] at t
    revert t
    cases (f k).testBit i <;> cases (g k).testBit i <;> decide
  · intro h
    refine Nat.eq_of_testBit_eq (fun j => ?_)
    rw [Nat.testBit_and, Nat.testBit_xor, nro_tb hf, nro_tb hg, nro_tb (f := fun k => if q k then 15 else 0) hm, Nat.zero_testBit]
    by_cases e : j < 4 * n
    · by_cases hq : q (j / 4)
      · rw [h (j / 4) (by omega) hq, Bool.xor_self, Bool.false_and]
      · rw [if_neg hq, Nat.zero_testBit, Bool.and_false, Bool.and_false]
    · rw [decide_eq_false e, Bool.false_and, Bool.false_and, Bool.false_and, Bool.and_false]
theorem nI_inj {a b : Nat} (ha : a < 4294967296) (hb : b < 4294967296) : nI a = nI b ↔ a = b := by
  refine ⟨fun e => ?_, fun e => by rw [e]⟩
  have h1 := pk_tn (n := a) ha
  have h2 := pk_tn (n := b) hb
  rw [e] at h1
  omega
theorem nx_inj {a b : Nat} (h : nx a = nx b) (ha : a ≤ 8) (hb : b ≤ 8) : a = b := by
  unfold nx at h
  split at h <;> split at h <;> omega
def HH (T : TD) (p q : Nat) (G : SD) : Nat := bst (fun i => fitb (wh T (upn (th T) (8 * p + q) i)) (vo (wh T (upn (th T) (8 * p + q) i)) 24) G G.1) 10
def RR (T : TD) (p q : Nat) : Nat → Nat := fun i => nro (nmb (wh T (upn (th T) (8 * p + q) i)) (vo (wh T (upn (th T) (8 * p + q) i)) 24) 23) (tnb T)
theorem nwf_lt {T : TD} (hto : tok T) {w : Nat} (hw : w < 24) : nwf T w < 4294967296 := by
  have n8 := hto.1
  have h1 := nro_lt (f := fun k => nx (vnm (vo T (w + 1)) k)) (n := tnb T) (fun k hk => nx_lt ((vk_vo hto (w + 1) (by omega)).1.2.1 k (by omega)).2.1)
  have h2 : 16 ^ tnb T ≤ 16 ^ 8 := Nat.pow_le_pow_right (by decide) n8
  unfold nwf
  omega
theorem ask_eq {T : TD} (hto : tok T) {p q m n w : Nat} (hm : m < 10) (hn : n < 10) (hw : w < 24) : nI (nwh T p q m w) = nI (nwh T p q n w) ↔ (RR T p q m ^^^ RR T p q n) &&& mrow T w (tnb T) = 0 := by
  have n8 := hto.1
  have tm : tok (wh T (upn (th T) (8 * p + q) m)) := tok_wh hto (by omega)
  have tn : tok (wh T (upn (th T) (8 * p + q) n)) := tok_wh hto (by omega)
  unfold nwh
  rw [nI_inj (nwf_lt tm hw) (nwf_lt tn hw), mrow_e]
  unfold nwf RR
  have am : ∀ w k, w ≤ 24 → k < tnb T → vnm (vo (wh T (upn (th T) (8 * p + q) m)) w) k ≤ 8 := fun w k hw hk => ((vk_vo tm w hw).1.2.1 k (by omega)).2.1
  have an : ∀ w k, w ≤ 24 → k < tnb T → vnm (vo (wh T (upn (th T) (8 * p + q) n)) w) k ≤ 8 := fun w k hw hk => ((vk_vo tn w hw).1.2.1 k (by omega)).2.1
  show nro _ (tnb T) = nro _ (tnb T) ↔ _
  rw [nro_eq (fun k hk => nx_lt (am (w + 1) k (by omega) hk)) (fun k hk => nx_lt (an (w + 1) k (by omega) hk)), nro_mask (q := fun k => tla T k ≤ w) (fun k hk => by have := nmb_le (T := wh T (upn (th T) (8 * p + q) m)) (w := 23) (am 24 k (by omega) hk); omega) (fun k hk => by have := nmb_le (T := wh T (upn (th T) (8 * p + q) n)) (w := 23) (an 24 k (by omega) hk); omega)]
  have key : ∀ i, ∀ k, k < tnb T → (tla T k ≤ w → vnm (vo (wh T (upn (th T) (8 * p + q) i)) (w + 1)) k = nmb (wh T (upn (th T) (8 * p + q) i)) (vo (wh T (upn (th T) (8 * p + q) i)) 24) 23 k) ∧ (¬ tla T k ≤ w → vnm (vo (wh T (upn (th T) (8 * p + q) i)) (w + 1)) k = 8) := by
    intro i k hk
    have hl := (hto.2.2.1 k hk).2.2.1
    rw [nm_nmb _ hw]
    unfold nmb
    refine ⟨fun h => ?_, fun h => if_neg (fun z => h z.1)⟩
    by_cases e : vnm (vo (wh T (upn (th T) (8 * p + q) i)) 24) k = 8
    · rw [if_neg (fun z => z.2 e), if_neg (fun z => z.2 e)]
    · rw [if_pos ⟨h, e⟩, if_pos ⟨by show tla T k ≤ 23; omega, e⟩]
  constructor
  · intro h k hk hq
    rw [← (key m k hk).1 hq, ← (key n k hk).1 hq]
    exact nx_inj (h k hk) (am (w + 1) k (by omega) hk) (an (w + 1) k (by omega) hk)
  · intro h k hk
    show nx _ = nx _
    by_cases hq : tla T k ≤ w
    · rw [(key m k hk).1 hq, (key n k hk).1 hq, h k hk hq]
    · rw [(key m k hk).2 hq, (key n k hk).2 hq]
set_option maxHeartbeats 2000000 in
theorem m_askOf (S : ST) (T : TD) (n : Nat) (b : Nat → Nat) (n' : Nat) (b' : Nat → Nat) (hL : ML T n b n' b' S) (hto : tok T) (G : SD) (hg : SM G S) (hgo : sok G) (p q : Nat) (hp : p < 8) (hq8 : q < 8) : EX me_R_askOf 8 [.ref 48, .int (nI p), .int (nI q)] S (fun r u => r = some (.int (whv (wta T (HH T p q G) (RR T p q) 24).1)) ∧ QM S u) := by
  refine EX.of mok_R_askOf (Nat.le_of_ble_eq_true rfl) ?_
  have n8 := hto.1
  have h10 : HH T p q G < 1024 := bst_lt _ 10
  refine run_ok 3 (c' := (3, [(0, .ref 48), (1, .int (nI p)), (2, .int (nI q))], [.int (nI q), .int (nI p), .ref 48], S)) rfl ?_
  refine x_callV [.int (nI p), .int (nI q)] rfl cv_R_hatedBy.1 lk_7_300 cv_R_hatedBy.2.1 cv_R_hatedBy.2.2.1 rfl cv_R_hatedBy.2.2.2.1 rfl rfl (Nat.le_of_ble_eq_true rfl) (by decide) cv_R_hatedBy.2.2.2.2 (m_hatedBy S T n b n' b' (hL.stay QM.rf) hto G (hg.stay QM.rf) hgo p q hp hq8) ?_
  rintro r u1 ⟨hr, hN, hqu1⟩
  rw [hr]
  clear hr r
  have hQu1 : QM S u1 := QM.rf.tr hqu1
  refine run_ok 7 (c' := (16, [(0, .ref 48), (1, .int (nI p)), (2, .int (nI q)), (3, .int (nI (HH T p q G))), (4, .int (-1)), (5, .int (nI 0)), (6, .int (nI 0))], [], u1)) rfl ?_
  refine loop_up (P := fun i => BX me_R_askOf 8 none (fun r u => r = some (.int (whv (wta T (HH T p q G) (RR T p q) 24).1)) ∧ QM S u) (16, [(0, .ref 48), (1, .int (nI p)), (2, .int (nI q)), (3, .int (nI (HH T p q G))), (4, .int (whv (wta T (HH T p q G) (RR T p q) i).1)), (5, .int (nI ((wta T (HH T p q G) (RR T p q) i).2))), (6, .int (nI i))], [], u1)) (24) ?_ ?_ 0 (by omega)
  · skip
    refine run_ok 2 (c' := (20, [(0, .ref 48), (1, .int (nI p)), (2, .int (nI q)), (3, .int (nI (HH T p q G))), (4, .int (whv (wta T (HH T p q G) (RR T p q) 24).1)), (5, .int (nI ((wta T (HH T p q G) (RR T p q) 24).2))), (6, .int (nI 24))], [.int (nI 24), .int (nI 24)], u1)) rfl ?_
    refine x_icmpN_ge 188 rfl rfl (by omega) (by omega) (fun h20 => ?_) (fun hn => absurd (Nat.le_refl _) hn)
    refine run_ok 1 (c' := (190, [(0, .ref 48), (1, .int (nI p)), (2, .int (nI q)), (3, .int (nI (HH T p q G))), (4, .int (whv (wta T (HH T p q G) (RR T p q) 24).1)), (5, .int (nI ((wta T (HH T p q G) (RR T p q) 24).2))), (6, .int (nI 24))], [.int (whv (wta T (HH T p q G) (RR T p q) 24).1)], u1)) rfl ?_
    exact x_ret (r := some (.int (whv (wta T (HH T p q G) (RR T p q) 24).1))) rfl rfl trivial ⟨rfl, hQu1⟩ rfl
  · intro i hi ih
    have q2 := wta_le T (HH T p q G) (RR T p q) i (by omega)
    have q3 := ggm_le (HH T p q G) (RR T p q) (mrow T i (tnb T)) 10
    refine run_ok 2 (c' := (20, [(0, .ref 48), (1, .int (nI p)), (2, .int (nI q)), (3, .int (nI (HH T p q G))), (4, .int (whv (wta T (HH T p q G) (RR T p q) i).1)), (5, .int (nI ((wta T (HH T p q G) (RR T p q) i).2))), (6, .int (nI i))], [.int (nI 24), .int (nI i)], u1)) rfl ?_
    refine x_icmpN_ge 188 rfl rfl (by omega) (by omega) (fun hn => absurd hn (show ¬ 24 ≤ i by omega)) (fun h20 => ?_)
    refine run_ok 4 (c' := (29, [(0, .ref 48), (1, .int (nI p)), (2, .int (nI q)), (3, .int (nI (HH T p q G))), (4, .int (whv (wta T (HH T p q G) (RR T p q) i).1)), (5, .int (nI ((wta T (HH T p q G) (RR T p q) i).2))), (6, .int (nI i)), (7, .int (nI 0)), (8, .int (nI 0))], [], u1)) rfl ?_
    refine loop_up (P := fun j => BX me_R_askOf 8 none (fun r u => r = some (.int (whv (wta T (HH T p q G) (RR T p q) 24).1)) ∧ QM S u) (29, [(0, .ref 48), (1, .int (nI p)), (2, .int (nI q)), (3, .int (nI (HH T p q G))), (4, .int (whv (wta T (HH T p q G) (RR T p q) i).1)), (5, .int (nI ((wta T (HH T p q G) (RR T p q) i).2))), (6, .int (nI i)), (7, .int (nI (ggm (HH T p q G) (RR T p q) (mrow T i (tnb T)) j))), (8, .int (nI j))], [], u1)) (10) ?_ ?_ 0 (by omega)
    · skip
      refine run_ok 2 (c' := (33, [(0, .ref 48), (1, .int (nI p)), (2, .int (nI q)), (3, .int (nI (HH T p q G))), (4, .int (whv (wta T (HH T p q G) (RR T p q) i).1)), (5, .int (nI ((wta T (HH T p q G) (RR T p q) i).2))), (6, .int (nI i)), (7, .int (nI (ggm (HH T p q G) (RR T p q) (mrow T i (tnb T)) 10))), (8, .int (nI 10))], [.int (nI 10), .int (nI 10)], u1)) rfl ?_
      refine x_icmpN_ge 134 rfl rfl (by omega) (by omega) (fun h33 => ?_) (fun hn => absurd (Nat.le_refl _) hn)
      refine run_ok 2 (c' := (137, [(0, .ref 48), (1, .int (nI p)), (2, .int (nI q)), (3, .int (nI (HH T p q G))), (4, .int (whv (wta T (HH T p q G) (RR T p q) i).1)), (5, .int (nI ((wta T (HH T p q G) (RR T p q) i).2))), (6, .int (nI i)), (7, .int (nI (ggm (HH T p q G) (RR T p q) (mrow T i (tnb T)) 10))), (8, .int (nI 10))], [.int (-1), .int (whv (wta T (HH T p q G) (RR T p q) i).1)], u1)) rfl ?_
      refine x_icmp_eq 147 rfl rfl (fun h137 => ?_) (fun h137 => ?_)
      · refine run_ok 4 (c' := (156, [(0, .ref 48), (1, .int (nI p)), (2, .int (nI q)), (3, .int (nI (HH T p q G))), (4, .int (whv (wta T (HH T p q G) (RR T p q) i).1)), (5, .int (nI ((wta T (HH T p q G) (RR T p q) i).2))), (6, .int (nI i)), (7, .int (nI (ggm (HH T p q G) (RR T p q) (mrow T i (tnb T)) 10))), (8, .int (nI 1))], [.int (nI 1)], u1)) rfl ?_
        refine x_ifN_eq 164 rfl rfl (by omega) (fun hn => absurd hn (by decide)) (fun _ => ?_)
        refine run_ok 4 (c' := (170, [(0, .ref 48), (1, .int (nI p)), (2, .int (nI q)), (3, .int (nI (HH T p q G))), (4, .int (nI i)), (5, .int (nI ((wta T (HH T p q G) (RR T p q) i).2))), (6, .int (nI i)), (7, .int (nI (ggm (HH T p q G) (RR T p q) (mrow T i (tnb T)) 10))), (8, .int (nI 1))], [.int (nI 1)], u1)) rfl ?_
        refine x_ifN_eq 178 rfl rfl (by omega) (fun hn => absurd hn (by decide)) (fun _ => ?_)
        refine run_ok 4 (c' := (185, [(0, .ref 48), (1, .int (nI p)), (2, .int (nI q)), (3, .int (nI (HH T p q G))), (4, .int (nI i)), (5, .int (nI (ggm (HH T p q G) (RR T p q) (mrow T i (tnb T)) 10))), (6, .int (nI i + nI 1)), (7, .int (nI (ggm (HH T p q G) (RR T p q) (mrow T i (tnb T)) 10))), (8, .int (nI 1))], [], u1)) rfl ?_
        rw [nI_add i 1]
        refine run_ok 1 (c' := (16, [(0, .ref 48), (1, .int (nI p)), (2, .int (nI q)), (3, .int (nI (HH T p q G))), (4, .int (nI i)), (5, .int (nI (ggm (HH T p q G) (RR T p q) (mrow T i (tnb T)) 10))), (6, .int (nI (i + 1))), (7, .int (nI (ggm (HH T p q G) (RR T p q) (mrow T i (tnb T)) 10))), (8, .int (nI 1))], [], u1)) rfl ?_
        refine x_less [0, 1, 2, 3, 4, 5, 6] rfl ?_
        rw [show wta T (HH T p q G) (RR T p q) (i + 1) = (i, ggm (HH T p q G) (RR T p q) (mrow T i (tnb T)) 10) from bdn_s (by first | exact Or.inl ((whv_n1 (by omega)).mp h137) | exact Or.inr (Nat.lt_of_not_le h144))] at ih
        rw [show whv (i, ggm (HH T p q G) (RR T p q) (mrow T i (tnb T)) 10).1 = nI i from whv_lt (by show i < 99; omega)] at ih
        exact ih
      · refine run_ok 2 (c' := (144, [(0, .ref 48), (1, .int (nI p)), (2, .int (nI q)), (3, .int (nI (HH T p q G))), (4, .int (whv (wta T (HH T p q G) (RR T p q) i).1)), (5, .int (nI ((wta T (HH T p q G) (RR T p q) i).2))), (6, .int (nI i)), (7, .int (nI (ggm (HH T p q G) (RR T p q) (mrow T i (tnb T)) 10))), (8, .int (nI 10))], [.int (nI ((wta T (HH T p q G) (RR T p q) i).2)), .int (nI (ggm (HH T p q G) (RR T p q) (mrow T i (tnb T)) 10))], u1)) rfl ?_
        refine x_icmpN_ge 151 rfl rfl (by omega) (by omega) (fun h144 => ?_) (fun h144 => ?_)
        · refine run_ok 3 (c' := (156, [(0, .ref 48), (1, .int (nI p)), (2, .int (nI q)), (3, .int (nI (HH T p q G))), (4, .int (whv (wta T (HH T p q G) (RR T p q) i).1)), (5, .int (nI ((wta T (HH T p q G) (RR T p q) i).2))), (6, .int (nI i)), (7, .int (nI (ggm (HH T p q G) (RR T p q) (mrow T i (tnb T)) 10))), (8, .int (nI 0))], [.int (nI 0)], u1)) rfl ?_
          refine x_ifN_eq 164 rfl rfl (by omega) (fun _ => ?_) (fun hn => absurd hn (by decide))
          refine run_ok 3 (c' := (170, [(0, .ref 48), (1, .int (nI p)), (2, .int (nI q)), (3, .int (nI (HH T p q G))), (4, .int (whv (wta T (HH T p q G) (RR T p q) i).1)), (5, .int (nI ((wta T (HH T p q G) (RR T p q) i).2))), (6, .int (nI i)), (7, .int (nI (ggm (HH T p q G) (RR T p q) (mrow T i (tnb T)) 10))), (8, .int (nI 0))], [.int (nI 0)], u1)) rfl ?_
          refine x_ifN_eq 178 rfl rfl (by omega) (fun _ => ?_) (fun hn => absurd hn (by decide))
          refine run_ok 3 (c' := (185, [(0, .ref 48), (1, .int (nI p)), (2, .int (nI q)), (3, .int (nI (HH T p q G))), (4, .int (whv (wta T (HH T p q G) (RR T p q) i).1)), (5, .int (nI ((wta T (HH T p q G) (RR T p q) i).2))), (6, .int (nI i + nI 1)), (7, .int (nI (ggm (HH T p q G) (RR T p q) (mrow T i (tnb T)) 10))), (8, .int (nI 0))], [], u1)) rfl ?_
          rw [nI_add i 1]
          refine run_ok 1 (c' := (16, [(0, .ref 48), (1, .int (nI p)), (2, .int (nI q)), (3, .int (nI (HH T p q G))), (4, .int (whv (wta T (HH T p q G) (RR T p q) i).1)), (5, .int (nI ((wta T (HH T p q G) (RR T p q) i).2))), (6, .int (nI (i + 1))), (7, .int (nI (ggm (HH T p q G) (RR T p q) (mrow T i (tnb T)) 10))), (8, .int (nI 0))], [], u1)) rfl ?_
          refine x_less [0, 1, 2, 3, 4, 5, 6] rfl ?_
          rw [show wta T (HH T p q G) (RR T p q) (i + 1) = wta T (HH T p q G) (RR T p q) i from bdn_z (fun z => z.elim (fun z => h137 ((whv_n1 (by omega)).mpr z)) (fun z => absurd h144 (Nat.not_le_of_lt z)))] at ih
          exact ih
        · refine run_ok 4 (c' := (156, [(0, .ref 48), (1, .int (nI p)), (2, .int (nI q)), (3, .int (nI (HH T p q G))), (4, .int (whv (wta T (HH T p q G) (RR T p q) i).1)), (5, .int (nI ((wta T (HH T p q G) (RR T p q) i).2))), (6, .int (nI i)), (7, .int (nI (ggm (HH T p q G) (RR T p q) (mrow T i (tnb T)) 10))), (8, .int (nI 1))], [.int (nI 1)], u1)) rfl ?_
          refine x_ifN_eq 164 rfl rfl (by omega) (fun hn => absurd hn (by decide)) (fun _ => ?_)
          refine run_ok 4 (c' := (170, [(0, .ref 48), (1, .int (nI p)), (2, .int (nI q)), (3, .int (nI (HH T p q G))), (4, .int (nI i)), (5, .int (nI ((wta T (HH T p q G) (RR T p q) i).2))), (6, .int (nI i)), (7, .int (nI (ggm (HH T p q G) (RR T p q) (mrow T i (tnb T)) 10))), (8, .int (nI 1))], [.int (nI 1)], u1)) rfl ?_
          refine x_ifN_eq 178 rfl rfl (by omega) (fun hn => absurd hn (by decide)) (fun _ => ?_)
          refine run_ok 4 (c' := (185, [(0, .ref 48), (1, .int (nI p)), (2, .int (nI q)), (3, .int (nI (HH T p q G))), (4, .int (nI i)), (5, .int (nI (ggm (HH T p q G) (RR T p q) (mrow T i (tnb T)) 10))), (6, .int (nI i + nI 1)), (7, .int (nI (ggm (HH T p q G) (RR T p q) (mrow T i (tnb T)) 10))), (8, .int (nI 1))], [], u1)) rfl ?_
          rw [nI_add i 1]
          refine run_ok 1 (c' := (16, [(0, .ref 48), (1, .int (nI p)), (2, .int (nI q)), (3, .int (nI (HH T p q G))), (4, .int (nI i)), (5, .int (nI (ggm (HH T p q G) (RR T p q) (mrow T i (tnb T)) 10))), (6, .int (nI (i + 1))), (7, .int (nI (ggm (HH T p q G) (RR T p q) (mrow T i (tnb T)) 10))), (8, .int (nI 1))], [], u1)) rfl ?_
          refine x_less [0, 1, 2, 3, 4, 5, 6] rfl ?_
          rw [show wta T (HH T p q G) (RR T p q) (i + 1) = (i, ggm (HH T p q G) (RR T p q) (mrow T i (tnb T)) 10) from bdn_s (by first | exact Or.inl ((whv_n1 (by omega)).mp h137) | exact Or.inr (Nat.lt_of_not_le h144))] at ih
          rw [show whv (i, ggm (HH T p q G) (RR T p q) (mrow T i (tnb T)) 10).1 = nI i from whv_lt (by show i < 99; omega)] at ih
          exact ih
    · intro j hj ihj
      have q4 := cnt_le (ggq (HH T p q G) (RR T p q) (mrow T i (tnb T)) j) 10
      have q3 := ggm_le (HH T p q G) (RR T p q) (mrow T i (tnb T)) j
      refine run_ok 2 (c' := (33, [(0, .ref 48), (1, .int (nI p)), (2, .int (nI q)), (3, .int (nI (HH T p q G))), (4, .int (whv (wta T (HH T p q G) (RR T p q) i).1)), (5, .int (nI ((wta T (HH T p q G) (RR T p q) i).2))), (6, .int (nI i)), (7, .int (nI (ggm (HH T p q G) (RR T p q) (mrow T i (tnb T)) j))), (8, .int (nI j))], [.int (nI 10), .int (nI j)], u1)) rfl ?_
      refine x_icmpN_ge 134 rfl rfl (by omega) (by omega) (fun hn => absurd hn (show ¬ 10 ≤ j by omega)) (fun h33 => ?_)
      refine run_ok 4 (c' := (42, [(0, .ref 48), (1, .int (nI p)), (2, .int (nI q)), (3, .int (nI (HH T p q G))), (4, .int (whv (wta T (HH T p q G) (RR T p q) i).1)), (5, .int (nI ((wta T (HH T p q G) (RR T p q) i).2))), (6, .int (nI i)), (7, .int (nI (ggm (HH T p q G) (RR T p q) (mrow T i (tnb T)) j))), (8, .int (nI j)), (9, .int (nI 0)), (10, .int (nI 0))], [], u1)) rfl ?_
      refine loop_up (P := fun k => BX me_R_askOf 8 none (fun r u => r = some (.int (whv (wta T (HH T p q G) (RR T p q) 24).1)) ∧ QM S u) (42, [(0, .ref 48), (1, .int (nI p)), (2, .int (nI q)), (3, .int (nI (HH T p q G))), (4, .int (whv (wta T (HH T p q G) (RR T p q) i).1)), (5, .int (nI ((wta T (HH T p q G) (RR T p q) i).2))), (6, .int (nI i)), (7, .int (nI (ggm (HH T p q G) (RR T p q) (mrow T i (tnb T)) j))), (8, .int (nI j)), (9, .int (nI (cnt (ggq (HH T p q G) (RR T p q) (mrow T i (tnb T)) j) k))), (10, .int (nI k))], [], u1)) (10) ?_ ?_ 0 (by omega)
      · skip
        refine run_ok 2 (c' := (46, [(0, .ref 48), (1, .int (nI p)), (2, .int (nI q)), (3, .int (nI (HH T p q G))), (4, .int (whv (wta T (HH T p q G) (RR T p q) i).1)), (5, .int (nI ((wta T (HH T p q G) (RR T p q) i).2))), (6, .int (nI i)), (7, .int (nI (ggm (HH T p q G) (RR T p q) (mrow T i (tnb T)) j))), (8, .int (nI j)), (9, .int (nI (cnt (ggq (HH T p q G) (RR T p q) (mrow T i (tnb T)) j) 10))), (10, .int (nI 10))], [.int (nI 10), .int (nI 10)], u1)) rfl ?_
        refine x_icmpN_ge 112 rfl rfl (by omega) (by omega) (fun h46 => ?_) (fun hn => absurd (Nat.le_refl _) hn)
        refine run_ok 2 (c' := (116, [(0, .ref 48), (1, .int (nI p)), (2, .int (nI q)), (3, .int (nI (HH T p q G))), (4, .int (whv (wta T (HH T p q G) (RR T p q) i).1)), (5, .int (nI ((wta T (HH T p q G) (RR T p q) i).2))), (6, .int (nI i)), (7, .int (nI (ggm (HH T p q G) (RR T p q) (mrow T i (tnb T)) j))), (8, .int (nI j)), (9, .int (nI (cnt (ggq (HH T p q G) (RR T p q) (mrow T i (tnb T)) j) 10))), (10, .int (nI 10))], [.int (nI (ggm (HH T p q G) (RR T p q) (mrow T i (tnb T)) j)), .int (nI (cnt (ggq (HH T p q G) (RR T p q) (mrow T i (tnb T)) j) 10))], u1)) rfl ?_
        refine x_icmpN_le 124 rfl rfl (by omega) (by omega) (fun h116 => ?_) (fun h116 => ?_)
        · refine run_ok 3 (c' := (131, [(0, .ref 48), (1, .int (nI p)), (2, .int (nI q)), (3, .int (nI (HH T p q G))), (4, .int (whv (wta T (HH T p q G) (RR T p q) i).1)), (5, .int (nI ((wta T (HH T p q G) (RR T p q) i).2))), (6, .int (nI i)), (7, .int (nI (ggm (HH T p q G) (RR T p q) (mrow T i (tnb T)) j))), (8, .int (nI j + nI 1)), (9, .int (nI (cnt (ggq (HH T p q G) (RR T p q) (mrow T i (tnb T)) j) 10))), (10, .int (nI 10))], [], u1)) rfl ?_
          rw [nI_add j 1]
          refine run_ok 1 (c' := (29, [(0, .ref 48), (1, .int (nI p)), (2, .int (nI q)), (3, .int (nI (HH T p q G))), (4, .int (whv (wta T (HH T p q G) (RR T p q) i).1)), (5, .int (nI ((wta T (HH T p q G) (RR T p q) i).2))), (6, .int (nI i)), (7, .int (nI (ggm (HH T p q G) (RR T p q) (mrow T i (tnb T)) j))), (8, .int (nI (j + 1))), (9, .int (nI (cnt (ggq (HH T p q G) (RR T p q) (mrow T i (tnb T)) j) 10))), (10, .int (nI 10))], [], u1)) rfl ?_
          refine x_less [0, 1, 2, 3, 4, 5, 6, 7, 8] rfl ?_
          rw [show ggm (HH T p q G) (RR T p q) (mrow T i (tnb T)) (j + 1) = ggm (HH T p q G) (RR T p q) (mrow T i (tnb T)) j from Nat.max_eq_left h116] at ihj
          exact ihj
        · refine run_ok 4 (c' := (131, [(0, .ref 48), (1, .int (nI p)), (2, .int (nI q)), (3, .int (nI (HH T p q G))), (4, .int (whv (wta T (HH T p q G) (RR T p q) i).1)), (5, .int (nI ((wta T (HH T p q G) (RR T p q) i).2))), (6, .int (nI i)), (7, .int (nI (cnt (ggq (HH T p q G) (RR T p q) (mrow T i (tnb T)) j) 10))), (8, .int (nI j + nI 1)), (9, .int (nI (cnt (ggq (HH T p q G) (RR T p q) (mrow T i (tnb T)) j) 10))), (10, .int (nI 10))], [], u1)) rfl ?_
          rw [nI_add j 1]
          refine run_ok 1 (c' := (29, [(0, .ref 48), (1, .int (nI p)), (2, .int (nI q)), (3, .int (nI (HH T p q G))), (4, .int (whv (wta T (HH T p q G) (RR T p q) i).1)), (5, .int (nI ((wta T (HH T p q G) (RR T p q) i).2))), (6, .int (nI i)), (7, .int (nI (cnt (ggq (HH T p q G) (RR T p q) (mrow T i (tnb T)) j) 10))), (8, .int (nI (j + 1))), (9, .int (nI (cnt (ggq (HH T p q G) (RR T p q) (mrow T i (tnb T)) j) 10))), (10, .int (nI 10))], [], u1)) rfl ?_
          refine x_less [0, 1, 2, 3, 4, 5, 6, 7, 8] rfl ?_
          rw [show ggm (HH T p q G) (RR T p q) (mrow T i (tnb T)) (j + 1) = cnt (ggq (HH T p q G) (RR T p q) (mrow T i (tnb T)) j) 10 from Nat.max_eq_right (Nat.le_of_lt (Nat.lt_of_not_le h116))] at ihj
          exact ihj
      · intro k hk ihk
        have q4 := cnt_le (ggq (HH T p q G) (RR T p q) (mrow T i (tnb T)) j) k
        refine run_ok 2 (c' := (46, [(0, .ref 48), (1, .int (nI p)), (2, .int (nI q)), (3, .int (nI (HH T p q G))), (4, .int (whv (wta T (HH T p q G) (RR T p q) i).1)), (5, .int (nI ((wta T (HH T p q G) (RR T p q) i).2))), (6, .int (nI i)), (7, .int (nI (ggm (HH T p q G) (RR T p q) (mrow T i (tnb T)) j))), (8, .int (nI j)), (9, .int (nI (cnt (ggq (HH T p q G) (RR T p q) (mrow T i (tnb T)) j) k))), (10, .int (nI k))], [.int (nI 10), .int (nI k)], u1)) rfl ?_
        refine x_icmpN_ge 112 rfl rfl (by omega) (by omega) (fun hn => absurd hn (show ¬ 10 ≤ k by omega)) (fun h46 => ?_)
        refine run_ok 3 (c' := (54, [(0, .ref 48), (1, .int (nI p)), (2, .int (nI q)), (3, .int (nI (HH T p q G))), (4, .int (whv (wta T (HH T p q G) (RR T p q) i).1)), (5, .int (nI ((wta T (HH T p q G) (RR T p q) i).2))), (6, .int (nI i)), (7, .int (nI (ggm (HH T p q G) (RR T p q) (mrow T i (tnb T)) j))), (8, .int (nI j)), (9, .int (nI (cnt (ggq (HH T p q G) (RR T p q) (mrow T i (tnb T)) j) k))), (10, .int (nI k))], [.int (nI j), .int (nI (HH T p q G)), .int (nI (cnt (ggq (HH T p q G) (RR T p q) (mrow T i (tnb T)) j) k))], u1)) rfl ?_
        refine x_callS [.int (nI (HH T p q G)), .int (nI j)] rfl cs_R_isIn.1 lk_7_204 cs_R_isIn.2.1 rfl rfl (Nat.le_of_ble_eq_true rfl) (by decide) cs_R_isIn.2.2 (m_isIn u1 (HH T p q G) j (by omega) (by omega)) ?_
        rintro r z ⟨hr, hu⟩
        rw [hr, hu]
        clear hr hu r z
        refine x_ifB_eq 102 rfl rfl (fun h57 => ?_) (fun h57 => ?_)
        · refine run_ok 2 (c' := (104, [(0, .ref 48), (1, .int (nI p)), (2, .int (nI q)), (3, .int (nI (HH T p q G))), (4, .int (whv (wta T (HH T p q G) (RR T p q) i).1)), (5, .int (nI ((wta T (HH T p q G) (RR T p q) i).2))), (6, .int (nI i)), (7, .int (nI (ggm (HH T p q G) (RR T p q) (mrow T i (tnb T)) j))), (8, .int (nI j)), (9, .int (nI (cnt (ggq (HH T p q G) (RR T p q) (mrow T i (tnb T)) j) k))), (10, .int (nI k))], [.int ((nI (cnt (ggq (HH T p q G) (RR T p q) (mrow T i (tnb T)) j) k)) + (nI 0))], u1)) rfl ?_
          refine x_top (v' := nI ((cnt (ggq (HH T p q G) (RR T p q) (mrow T i (tnb T)) j) k) + 0)) (nI_add _ _) ?_
          refine run_ok 2 (c' := (109, [(0, .ref 48), (1, .int (nI p)), (2, .int (nI q)), (3, .int (nI (HH T p q G))), (4, .int (whv (wta T (HH T p q G) (RR T p q) i).1)), (5, .int (nI ((wta T (HH T p q G) (RR T p q) i).2))), (6, .int (nI i)), (7, .int (nI (ggm (HH T p q G) (RR T p q) (mrow T i (tnb T)) j))), (8, .int (nI j)), (9, .int (nI ((cnt (ggq (HH T p q G) (RR T p q) (mrow T i (tnb T)) j) k) + 0))), (10, .int (nI k + nI 1))], [], u1)) rfl ?_
          rw [nI_add k 1]
          refine run_ok 1 (c' := (42, [(0, .ref 48), (1, .int (nI p)), (2, .int (nI q)), (3, .int (nI (HH T p q G))), (4, .int (whv (wta T (HH T p q G) (RR T p q) i).1)), (5, .int (nI ((wta T (HH T p q G) (RR T p q) i).2))), (6, .int (nI i)), (7, .int (nI (ggm (HH T p q G) (RR T p q) (mrow T i (tnb T)) j))), (8, .int (nI j)), (9, .int (nI ((cnt (ggq (HH T p q G) (RR T p q) (mrow T i (tnb T)) j) k) + 0))), (10, .int (nI (k + 1)))], [], u1)) rfl ?_
          refine x_less [0, 1, 2, 3, 4, 5, 6, 7, 8, 9, 10] rfl ?_
          rw [show cnt (ggq (HH T p q G) (RR T p q) (mrow T i (tnb T)) j) (k + 1) = cnt (ggq (HH T p q G) (RR T p q) (mrow T i (tnb T)) j) k from cnt_z (decide_eq_false (fun z => by first | exact h57 z.1.1 | exact h66 z.1.2 | exact h95 ((ask_eq hto hj hk hi).mpr z.2)))] at ihk
          rw [Nat.add_zero]
          exact ihk
        · refine run_ok 2 (c' := (63, [(0, .ref 48), (1, .int (nI p)), (2, .int (nI q)), (3, .int (nI (HH T p q G))), (4, .int (whv (wta T (HH T p q G) (RR T p q) i).1)), (5, .int (nI ((wta T (HH T p q G) (RR T p q) i).2))), (6, .int (nI i)), (7, .int (nI (ggm (HH T p q G) (RR T p q) (mrow T i (tnb T)) j))), (8, .int (nI j)), (9, .int (nI (cnt (ggq (HH T p q G) (RR T p q) (mrow T i (tnb T)) j) k))), (10, .int (nI k))], [.int (nI k), .int (nI (HH T p q G)), .int (nI (cnt (ggq (HH T p q G) (RR T p q) (mrow T i (tnb T)) j) k))], u1)) rfl ?_
          refine x_callS [.int (nI (HH T p q G)), .int (nI k)] rfl cs_R_isIn.1 lk_7_204 cs_R_isIn.2.1 rfl rfl (Nat.le_of_ble_eq_true rfl) (by decide) cs_R_isIn.2.2 (m_isIn u1 (HH T p q G) k (by omega) (by omega)) ?_
          rintro r z ⟨hr, hu⟩
          rw [hr, hu]
          clear hr hu r z
          refine x_ifB_eq 102 rfl rfl (fun h66 => ?_) (fun h66 => ?_)
          · refine run_ok 2 (c' := (104, [(0, .ref 48), (1, .int (nI p)), (2, .int (nI q)), (3, .int (nI (HH T p q G))), (4, .int (whv (wta T (HH T p q G) (RR T p q) i).1)), (5, .int (nI ((wta T (HH T p q G) (RR T p q) i).2))), (6, .int (nI i)), (7, .int (nI (ggm (HH T p q G) (RR T p q) (mrow T i (tnb T)) j))), (8, .int (nI j)), (9, .int (nI (cnt (ggq (HH T p q G) (RR T p q) (mrow T i (tnb T)) j) k))), (10, .int (nI k))], [.int ((nI (cnt (ggq (HH T p q G) (RR T p q) (mrow T i (tnb T)) j) k)) + (nI 0))], u1)) rfl ?_
            refine x_top (v' := nI ((cnt (ggq (HH T p q G) (RR T p q) (mrow T i (tnb T)) j) k) + 0)) (nI_add _ _) ?_
            refine run_ok 2 (c' := (109, [(0, .ref 48), (1, .int (nI p)), (2, .int (nI q)), (3, .int (nI (HH T p q G))), (4, .int (whv (wta T (HH T p q G) (RR T p q) i).1)), (5, .int (nI ((wta T (HH T p q G) (RR T p q) i).2))), (6, .int (nI i)), (7, .int (nI (ggm (HH T p q G) (RR T p q) (mrow T i (tnb T)) j))), (8, .int (nI j)), (9, .int (nI ((cnt (ggq (HH T p q G) (RR T p q) (mrow T i (tnb T)) j) k) + 0))), (10, .int (nI k + nI 1))], [], u1)) rfl ?_
            rw [nI_add k 1]
            refine run_ok 1 (c' := (42, [(0, .ref 48), (1, .int (nI p)), (2, .int (nI q)), (3, .int (nI (HH T p q G))), (4, .int (whv (wta T (HH T p q G) (RR T p q) i).1)), (5, .int (nI ((wta T (HH T p q G) (RR T p q) i).2))), (6, .int (nI i)), (7, .int (nI (ggm (HH T p q G) (RR T p q) (mrow T i (tnb T)) j))), (8, .int (nI j)), (9, .int (nI ((cnt (ggq (HH T p q G) (RR T p q) (mrow T i (tnb T)) j) k) + 0))), (10, .int (nI (k + 1)))], [], u1)) rfl ?_
            refine x_less [0, 1, 2, 3, 4, 5, 6, 7, 8, 9, 10] rfl ?_
            rw [show cnt (ggq (HH T p q G) (RR T p q) (mrow T i (tnb T)) j) (k + 1) = cnt (ggq (HH T p q G) (RR T p q) (mrow T i (tnb T)) j) k from cnt_z (decide_eq_false (fun z => by first | exact h57 z.1.1 | exact h66 z.1.2 | exact h95 ((ask_eq hto hj hk hi).mpr z.2)))] at ihk
            rw [Nat.add_zero]
            exact ihk
          · refine run_ok 5 (c' := (78, [(0, .ref 48), (1, .int (nI p)), (2, .int (nI q)), (3, .int (nI (HH T p q G))), (4, .int (whv (wta T (HH T p q G) (RR T p q) i).1)), (5, .int (nI ((wta T (HH T p q G) (RR T p q) i).2))), (6, .int (nI i)), (7, .int (nI (ggm (HH T p q G) (RR T p q) (mrow T i (tnb T)) j))), (8, .int (nI j)), (9, .int (nI (cnt (ggq (HH T p q G) (RR T p q) (mrow T i (tnb T)) j) k))), (10, .int (nI k))], [.int ((nI 24) * (nI j)), .ref 77, .int (nI (cnt (ggq (HH T p q G) (RR T p q) (mrow T i (tnb T)) j) k))], u1)) rfl ?_
            refine x_top (v' := nI (24 * j)) (pk_mul _ _) ?_
            refine run_ok 2 (c' := (81, [(0, .ref 48), (1, .int (nI p)), (2, .int (nI q)), (3, .int (nI (HH T p q G))), (4, .int (whv (wta T (HH T p q G) (RR T p q) i).1)), (5, .int (nI ((wta T (HH T p q G) (RR T p q) i).2))), (6, .int (nI i)), (7, .int (nI (ggm (HH T p q G) (RR T p q) (mrow T i (tnb T)) j))), (8, .int (nI j)), (9, .int (nI (cnt (ggq (HH T p q G) (RR T p q) (mrow T i (tnb T)) j) k))), (10, .int (nI k))], [.int ((nI (24 * j)) + (nI i)), .ref 77, .int (nI (cnt (ggq (HH T p q G) (RR T p q) (mrow T i (tnb T)) j) k))], u1)) rfl ?_
            refine x_top (v' := nI ((24 * j) + i)) (nI_add _ _) ?_
            refine x_iaN (nI (nwh T p q j i)) rfl rfl (by decide) (by omega) (hN j hj i hi (by omega)) ?_
            refine run_ok 5 (c' := (91, [(0, .ref 48), (1, .int (nI p)), (2, .int (nI q)), (3, .int (nI (HH T p q G))), (4, .int (whv (wta T (HH T p q G) (RR T p q) i).1)), (5, .int (nI ((wta T (HH T p q G) (RR T p q) i).2))), (6, .int (nI i)), (7, .int (nI (ggm (HH T p q G) (RR T p q) (mrow T i (tnb T)) j))), (8, .int (nI j)), (9, .int (nI (cnt (ggq (HH T p q G) (RR T p q) (mrow T i (tnb T)) j) k))), (10, .int (nI k))], [.int ((nI 24) * (nI k)), .ref 77, .int (nI (nwh T p q j i)), .int (nI (cnt (ggq (HH T p q G) (RR T p q) (mrow T i (tnb T)) j) k))], u1)) rfl ?_
            refine x_top (v' := nI (24 * k)) (pk_mul _ _) ?_
            refine run_ok 2 (c' := (94, [(0, .ref 48), (1, .int (nI p)), (2, .int (nI q)), (3, .int (nI (HH T p q G))), (4, .int (whv (wta T (HH T p q G) (RR T p q) i).1)), (5, .int (nI ((wta T (HH T p q G) (RR T p q) i).2))), (6, .int (nI i)), (7, .int (nI (ggm (HH T p q G) (RR T p q) (mrow T i (tnb T)) j))), (8, .int (nI j)), (9, .int (nI (cnt (ggq (HH T p q G) (RR T p q) (mrow T i (tnb T)) j) k))), (10, .int (nI k))], [.int ((nI (24 * k)) + (nI i)), .ref 77, .int (nI (nwh T p q j i)), .int (nI (cnt (ggq (HH T p q G) (RR T p q) (mrow T i (tnb T)) j) k))], u1)) rfl ?_
            refine x_top (v' := nI ((24 * k) + i)) (nI_add _ _) ?_
            refine x_iaN (nI (nwh T p q k i)) rfl rfl (by decide) (by omega) (hN k hk i hi (by omega)) ?_
            refine x_icmp_ne 102 rfl rfl (fun h95 => ?_) (fun h95 => ?_)
            · refine run_ok 2 (c' := (104, [(0, .ref 48), (1, .int (nI p)), (2, .int (nI q)), (3, .int (nI (HH T p q G))), (4, .int (whv (wta T (HH T p q G) (RR T p q) i).1)), (5, .int (nI ((wta T (HH T p q G) (RR T p q) i).2))), (6, .int (nI i)), (7, .int (nI (ggm (HH T p q G) (RR T p q) (mrow T i (tnb T)) j))), (8, .int (nI j)), (9, .int (nI (cnt (ggq (HH T p q G) (RR T p q) (mrow T i (tnb T)) j) k))), (10, .int (nI k))], [.int ((nI (cnt (ggq (HH T p q G) (RR T p q) (mrow T i (tnb T)) j) k)) + (nI 0))], u1)) rfl ?_
              refine x_top (v' := nI ((cnt (ggq (HH T p q G) (RR T p q) (mrow T i (tnb T)) j) k) + 0)) (nI_add _ _) ?_
              refine run_ok 2 (c' := (109, [(0, .ref 48), (1, .int (nI p)), (2, .int (nI q)), (3, .int (nI (HH T p q G))), (4, .int (whv (wta T (HH T p q G) (RR T p q) i).1)), (5, .int (nI ((wta T (HH T p q G) (RR T p q) i).2))), (6, .int (nI i)), (7, .int (nI (ggm (HH T p q G) (RR T p q) (mrow T i (tnb T)) j))), (8, .int (nI j)), (9, .int (nI ((cnt (ggq (HH T p q G) (RR T p q) (mrow T i (tnb T)) j) k) + 0))), (10, .int (nI k + nI 1))], [], u1)) rfl ?_
              rw [nI_add k 1]
              refine run_ok 1 (c' := (42, [(0, .ref 48), (1, .int (nI p)), (2, .int (nI q)), (3, .int (nI (HH T p q G))), (4, .int (whv (wta T (HH T p q G) (RR T p q) i).1)), (5, .int (nI ((wta T (HH T p q G) (RR T p q) i).2))), (6, .int (nI i)), (7, .int (nI (ggm (HH T p q G) (RR T p q) (mrow T i (tnb T)) j))), (8, .int (nI j)), (9, .int (nI ((cnt (ggq (HH T p q G) (RR T p q) (mrow T i (tnb T)) j) k) + 0))), (10, .int (nI (k + 1)))], [], u1)) rfl ?_
              refine x_less [0, 1, 2, 3, 4, 5, 6, 7, 8, 9, 10] rfl ?_
              rw [show cnt (ggq (HH T p q G) (RR T p q) (mrow T i (tnb T)) j) (k + 1) = cnt (ggq (HH T p q G) (RR T p q) (mrow T i (tnb T)) j) k from cnt_z (decide_eq_false (fun z => by first | exact h57 z.1.1 | exact h66 z.1.2 | exact h95 ((ask_eq hto hj hk hi).mpr z.2)))] at ihk
              rw [Nat.add_zero]
              exact ihk
            · refine run_ok 3 (c' := (104, [(0, .ref 48), (1, .int (nI p)), (2, .int (nI q)), (3, .int (nI (HH T p q G))), (4, .int (whv (wta T (HH T p q G) (RR T p q) i).1)), (5, .int (nI ((wta T (HH T p q G) (RR T p q) i).2))), (6, .int (nI i)), (7, .int (nI (ggm (HH T p q G) (RR T p q) (mrow T i (tnb T)) j))), (8, .int (nI j)), (9, .int (nI (cnt (ggq (HH T p q G) (RR T p q) (mrow T i (tnb T)) j) k))), (10, .int (nI k))], [.int ((nI (cnt (ggq (HH T p q G) (RR T p q) (mrow T i (tnb T)) j) k)) + (nI 1))], u1)) rfl ?_
              refine x_top (v' := nI ((cnt (ggq (HH T p q G) (RR T p q) (mrow T i (tnb T)) j) k) + 1)) (nI_add _ _) ?_
              refine run_ok 2 (c' := (109, [(0, .ref 48), (1, .int (nI p)), (2, .int (nI q)), (3, .int (nI (HH T p q G))), (4, .int (whv (wta T (HH T p q G) (RR T p q) i).1)), (5, .int (nI ((wta T (HH T p q G) (RR T p q) i).2))), (6, .int (nI i)), (7, .int (nI (ggm (HH T p q G) (RR T p q) (mrow T i (tnb T)) j))), (8, .int (nI j)), (9, .int (nI ((cnt (ggq (HH T p q G) (RR T p q) (mrow T i (tnb T)) j) k) + 1))), (10, .int (nI k + nI 1))], [], u1)) rfl ?_
              rw [nI_add k 1]
              refine run_ok 1 (c' := (42, [(0, .ref 48), (1, .int (nI p)), (2, .int (nI q)), (3, .int (nI (HH T p q G))), (4, .int (whv (wta T (HH T p q G) (RR T p q) i).1)), (5, .int (nI ((wta T (HH T p q G) (RR T p q) i).2))), (6, .int (nI i)), (7, .int (nI (ggm (HH T p q G) (RR T p q) (mrow T i (tnb T)) j))), (8, .int (nI j)), (9, .int (nI ((cnt (ggq (HH T p q G) (RR T p q) (mrow T i (tnb T)) j) k) + 1))), (10, .int (nI (k + 1)))], [], u1)) rfl ?_
              refine x_less [0, 1, 2, 3, 4, 5, 6, 7, 8, 9, 10] rfl ?_
              rw [show cnt (ggq (HH T p q G) (RR T p q) (mrow T i (tnb T)) j) (k + 1) = cnt (ggq (HH T p q G) (RR T p q) (mrow T i (tnb T)) j) k + 1 from cnt_s (decide_eq_true ⟨⟨h57, h66⟩, (ask_eq hto hj hk hi).mp h95⟩)] at ihk
              exact ihk

set_option maxHeartbeats 2000000 in
theorem m_ask_ok (S : ST) (T : TD) (n : Nat) (b : Nat → Nat) (n' : Nat) (b' : Nat → Nat) (hL : ML T n b n' b' S) (hto : tok T) (G : SD) (hg : SM G S) (hgo : sok G) (p q : Nat) (hp : p < 8) (hq8 : q < 8) (hpq : p ≠ q) : EX me_R_ask 9 [.ref 48, .int (nI p), .int (nI q)] S (fun r u => r = some (.int (whv (wta T (HH T p q G) (RR T p q) 24).1)) ∧ QM S u) := by
  refine EX.of mok_R_ask (Nat.le_of_ble_eq_true rfl) ?_
  refine run_ok 2 (c' := (2, [(0, .ref 48), (1, .int (nI p)), (2, .int (nI q))], [.int (nI q), .int (nI p)], S)) rfl ?_
  refine x_callS [.int (nI p), .int (nI q)] rfl cs_R_areTwo.1 lk_7_156 cs_R_areTwo.2.1 rfl rfl (Nat.le_of_ble_eq_true rfl) (by decide) cs_R_areTwo.2.2 (m_areTwo S (nI p) (nI q)) ?_
  rintro r u ⟨hr, hu⟩
  rw [hr, hu]
  clear hr hu r u
  refine x_ifB_eq 17 rfl rfl (fun hn => absurd hn (fun z => z (two_t hp hq8 hpq))) (fun h5 => ?_)
  refine run_ok 3 (c' := (11, [(0, .ref 48), (1, .int (nI p)), (2, .int (nI q))], [.int (nI q), .int (nI p), .ref 48], S)) rfl ?_
  refine x_callV [.int (nI p), .int (nI q)] rfl cv_R_askOf.1 lk_7_303 cv_R_askOf.2.1 cv_R_askOf.2.2.1 rfl cv_R_askOf.2.2.2.1 rfl rfl (Nat.le_of_ble_eq_true rfl) (by decide) cv_R_askOf.2.2.2.2 (m_askOf S T n b n' b' (hL.stay QM.rf) hto G (hg.stay QM.rf) hgo p q hp hq8) ?_
  rintro r u1 ⟨hr, hqu1⟩
  rw [hr]
  clear hr r
  have hQu1 : QM S u1 := QM.rf.tr hqu1
  refine run_ok 1 (c' := (19, [(0, .ref 48), (1, .int (nI p)), (2, .int (nI q))], [.int (whv (wta T (HH T p q G) (RR T p q) 24).1)], u1)) rfl ?_
  exact x_ret (r := some (.int (whv (wta T (HH T p q G) (RR T p q) 24).1))) rfl rfl trivial ⟨rfl, hQu1⟩ rfl

set_option maxHeartbeats 2000000 in
theorem m_ask_bad (S : ST) (T : TD) (n : Nat) (b : Nat → Nat) (n' : Nat) (b' : Nat → Nat) (hL : ML T n b n' b' S) (hto : tok T) (x y : Int32) (hbad : ¬ ((0 ≤ x ∧ x < nI 8) ∧ (0 ≤ y ∧ y < nI 8) ∧ ¬ x = y)) : EX me_R_ask 9 [.ref 48, .int x, .int y] S (fun r u => r = some (.int ((-2))) ∧ QM S u) := by
  refine EX.of mok_R_ask (Nat.le_of_ble_eq_true rfl) ?_
  refine run_ok 2 (c' := (2, [(0, .ref 48), (1, .int x), (2, .int y)], [.int y, .int x], S)) rfl ?_
  refine x_callS [.int x, .int y] rfl cs_R_areTwo.1 lk_7_156 cs_R_areTwo.2.1 rfl rfl (Nat.le_of_ble_eq_true rfl) (by decide) cs_R_areTwo.2.2 (m_areTwo S (x) (y)) ?_
  rintro r u ⟨hr, hu⟩
  rw [hr, hu]
  clear hr hu r u
  refine x_ifB_eq 17 rfl rfl (fun h5 => ?_) (fun h5 => ?_)
  · refine run_ok 1 (c' := (19, [(0, .ref 48), (1, .int x), (2, .int y)], [.int (-2)], S)) rfl ?_
    exact x_ret (r := some (.int (-2))) rfl rfl trivial ⟨rfl, QM.rf⟩ rfl
  · exact absurd h5 hbad


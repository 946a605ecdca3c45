/-! the week to ask; events by a seed -/
theorem nx_xor (a b : Nat) : nI a ^^^ nI b = nI (a ^^^ b) := by
  apply Int32.toBitVec_inj.1
  show BitVec.ofNat 32 a ^^^ BitVec.ofNat 32 b = BitVec.ofNat 32 (a ^^^ b)
  apply BitVec.eq_of_getLsbD_eq
  intro i hi
  simp [hi]
theorem and3 (x y z : Int32) : (x &&& y) &&& z = (x &&& z) &&& (y &&& z) := by
  apply Int32.toBitVec_inj.1
  show (x.toBitVec &&& y.toBitVec) &&& z.toBitVec = (x.toBitVec &&& z.toBitVec) &&& (y.toBitVec &&& z.toBitVec)
  apply BitVec.eq_of_getLsbD_eq
  intro i hi
  simp only [BitVec.getLsbD_and]
  cases x.toBitVec.getLsbD i <;> cases y.toBitVec.getLsbD i <;> cases z.toBitVec.getLsbD i <;> rfl
theorem b2_and (p q : Prop) [Decidable p] [Decidable q] : b2 p &&& b2 q = b2 (p ∧ q) := by
  unfold b2
  by_cases hp : p <;> by_cases hq : q
  · rw [if_pos hp, if_pos hq, if_pos ⟨hp, hq⟩]; decide
  · rw [if_pos hp, if_neg hq, if_neg (fun z => hq z.2)]; decide
  · rw [if_neg hp, if_pos hq, if_neg (fun z => hp z.1)]; decide
  · rw [if_neg hp, if_neg hq, if_neg (fun z => hp z.1)]; decide
theorem bit2 {h m n : Nat} (hh : h < 2147483648) (hm : m < 32) (hn : n < 32) : ((nI h >>> (nI m &&& 31)) &&& (nI h >>> (nI n &&& 31))) &&& nI 1 = b2 (h.testBit m = true ∧ h.testBit n = true) := by
  rw [and3, bit_b hh hm, bit_b hh hn, b2_and]
theorem nI_z {n : Nat} (h : n < 4294967296) : nI n = 0 ↔ n = 0 := by
  refine ⟨fun e => ?_, fun e => by rw [e]; rfl⟩
  have h1 := pk_tn (n := n) h
  rw [e] at h1
  have h2 : ((0 : Int32)).toBitVec.toNat = 0 := by decide
  omega
theorem maxN {a b : Nat} (ha : a < 2147483648) (hb : b < 2147483648) : (if nI a < nI b then nI b else nI a) = nI (max a b) := by
  by_cases h : a < b
  · rw [if_pos ((nI_ltI ha hb).mpr h), Nat.max_eq_right (by omega)]
  · rw [if_neg (fun z => h ((nI_ltI ha hb).mp z)), Nat.max_eq_left (by omega)]
def ggq (h : Nat) (R : Nat → Nat) (mask m n : Nat) : Bool := decide ((h.testBit m = true ∧ h.testBit n = true) ∧ (R m ^^^ R n) &&& mask = 0)
def ggm (h : Nat) (R : Nat → Nat) (mask : Nat) : Nat → Nat
  | 0 => 0
  | m + 1 => max (ggm h R mask m) (cnt (ggq h R mask m) 10)
theorem ggm_le (h : Nat) (R : Nat → Nat) (mask : Nat) : ∀ m, ggm h R mask m ≤ 10 := by
  intro m
  induction m with
  | zero => exact Nat.zero_le 10
  | succ m ih =>
    have := cnt_le (ggq h R mask m) 10
    show max _ _ ≤ 10
    omega
def wta (T : TD) (h : Nat) (R : Nat → Nat) : Nat → Nat × Nat
  | 0 => (99, 0)
  | w + 1 => bdn (wta T h R w) w (ggm h R (mrow T w (tnb T)) 10)
theorem wta_le (T : TD) (h : Nat) (R : Nat → Nat) : ∀ p, p ≤ 24 → (wta T h R p).1 ≤ 99 ∧ (wta T h R p).2 ≤ 10 := by
  intro p
  induction p with
  | zero => intro _; exact ⟨Nat.le_refl 99, Nat.zero_le 10⟩
  | succ p ih =>
    intro hp
    have q := ih (by omega)
    exact bdn_le q.1 (by omega) q.2 (ggm_le _ _ _ _)
theorem xand_lt {a b m : Nat} (hm : m < 4294967296) : (a ^^^ b) &&& m < 4294967296 := Nat.lt_of_le_of_lt Nat.and_le_right hm
set_option maxHeartbeats 2000000 in
theorem c_greatest (S : ST) (h k : Nat) (R : Nat → Nat) (hh : h < 1024) (hk : k < 4294967296) (h47 : rh S 47 10 R) : EX me_N_greatestGroup 1 [.ref 0, .int (nI h), .int (nI k)] S (fun r u => r = some (.int (nI (ggm h R k 10))) ∧ u = S) := by
  refine EX.of mok_N_greatestGroup (Nat.le_of_ble_eq_true rfl) ?_
  have H : ∀ m, m ≤ 10 → BX me_N_greatestGroup 1 none (fun r u => r = some (.int (nI (ggm h R k 10))) ∧ u = S) (5, [(0, .ref 0), (1, .int (nI h)), (2, .int (nI k)), (3, .int (nI (ggm h R k m))), (4, .int (nI m))], [], S) := by
    refine loop_up (P := fun m => BX me_N_greatestGroup 1 none (fun r u => r = some (.int (nI (ggm h R k 10))) ∧ u = S) (5, [(0, .ref 0), (1, .int (nI h)), (2, .int (nI k)), (3, .int (nI (ggm h R k m))), (4, .int (nI m))], [], S)) 10 ?_ ?_
    · skip
      refine run_ok 2 (c' := (9, [(0, .ref 0), (1, .int (nI h)), (2, .int (nI k)), (3, .int (nI (ggm h R k 10))), (4, .int (nI 10))], [.int (nI 9), .int (nI 10)], S)) rfl ?_
      refine x_icmpN_gt 94 rfl rfl (by omega) (by omega) (fun h9 => ?_) (fun hn => absurd (show 9 < 10 by decide) hn)
      refine run_ok 1 (c' := (95, [(0, .ref 0), (1, .int (nI h)), (2, .int (nI k)), (3, .int (nI (ggm h R k 10))), (4, .int (nI 10))], [.int (nI (ggm h R k 10))], S)) rfl ?_
      exact x_ret (r := some (.int (nI (ggm h R k 10)))) rfl rfl trivial ⟨rfl, rfl⟩ rfl
    · intro m hm ih
      have q1 := ggm_le h R k m
      have HI : ∀ n, n ≤ 10 → BX me_N_greatestGroup 1 none (fun r u => r = some (.int (nI (ggm h R k 10))) ∧ u = S) (18, [(0, .ref 0), (1, .int (nI h)), (2, .int (nI k)), (3, .int (nI (ggm h R k m))), (4, .int (nI m)), (5, .int (nI (cnt (ggq h R k m) n))), (6, .int (nI n))], [], S) := by
        refine loop_up (P := fun n => BX me_N_greatestGroup 1 none (fun r u => r = some (.int (nI (ggm h R k 10))) ∧ u = S) (18, [(0, .ref 0), (1, .int (nI h)), (2, .int (nI k)), (3, .int (nI (ggm h R k m))), (4, .int (nI m)), (5, .int (nI (cnt (ggq h R k m) n))), (6, .int (nI n))], [], S)) 10 ?_ ?_
        · skip
          have q2 := cnt_le (ggq h R k m) 10
          refine run_ok 2 (c' := (22, [(0, .ref 0), (1, .int (nI h)), (2, .int (nI k)), (3, .int (nI (ggm h R k m))), (4, .int (nI m)), (5, .int (nI (cnt (ggq h R k m) 10))), (6, .int (nI 10))], [.int (nI 9), .int (nI 10)], S)) rfl ?_
          refine x_icmpN_gt 81 rfl rfl (by omega) (by omega) (fun h22 => ?_) (fun hn => absurd (show 9 < 10 by decide) hn)
          refine run_ok 2 (c' := (84, [(0, .ref 0), (1, .int (nI h)), (2, .int (nI k)), (3, .int (nI (ggm h R k m))), (4, .int (nI m)), (5, .int (nI (cnt (ggq h R k m) 10))), (6, .int (nI 10))], [.int (nI (cnt (ggq h R k m) 10)), .int (nI (ggm h R k m))], S)) rfl ?_
          refine x_mmax rfl lk_6_375 wm_max.1 wm_max.2.1 wm_max.2.2 (Nat.le_of_ble_eq_true rfl) (by decide) ?_
          refine x_top (v' := nI (max (ggm h R k m) (cnt (ggq h R k m) 10))) (maxN (by omega) (by omega)) ?_
          refine run_ok 2 (c' := (91, [(0, .ref 0), (1, .int (nI h)), (2, .int (nI k)), (3, .int (nI (max (ggm h R k m) (cnt (ggq h R k m) 10)))), (4, .int (nI m + nI 1)), (5, .int (nI (cnt (ggq h R k m) 10))), (6, .int (nI 10))], [], S)) rfl ?_
          rw [nI_add m 1]
          refine run_ok 1 (c' := (5, [(0, .ref 0), (1, .int (nI h)), (2, .int (nI k)), (3, .int (nI (max (ggm h R k m) (cnt (ggq h R k m) 10)))), (4, .int (nI (m + 1))), (5, .int (nI (cnt (ggq h R k m) 10))), (6, .int (nI 10))], [], S)) rfl ?_
          refine x_less [0, 1, 2, 3, 4] rfl ?_
          exact ih
        · intro n hn ihn
          refine run_ok 2 (c' := (22, [(0, .ref 0), (1, .int (nI h)), (2, .int (nI k)), (3, .int (nI (ggm h R k m))), (4, .int (nI m)), (5, .int (nI (cnt (ggq h R k m) n))), (6, .int (nI n))], [.int (nI 9), .int (nI n)], S)) rfl ?_
          refine x_icmpN_gt 81 rfl rfl (by omega) (by omega) (fun hn => absurd hn (show ¬ 9 < n by omega)) (fun h22 => ?_)
          refine run_ok 9 (c' := (36, [(0, .ref 0), (1, .int (nI h)), (2, .int (nI k)), (3, .int (nI (ggm h R k m))), (4, .int (nI m)), (5, .int (nI (cnt (ggq h R k m) n))), (6, .int (nI n))], [.int ((((nI h) >>> ((nI m) &&& 31)) &&& ((nI h) >>> ((nI n) &&& 31))) &&& (nI 1))], S)) rfl ?_
          refine x_top (v' := b2 (h.testBit m = true ∧ h.testBit n = true)) (bit2 (by omega) (by omega) (by omega)) ?_
          refine run_ok 1 (c' := (37, [(0, .ref 0), (1, .int (nI h)), (2, .int (nI k)), (3, .int (nI (ggm h R k m))), (4, .int (nI m)), (5, .int (nI (cnt (ggq h R k m) n))), (6, .int (nI n))], [.int (nI 1), .int (b2 (h.testBit m = true ∧ h.testBit n = true))], S)) rfl ?_
          refine x_icmpB_ne 44 rfl rfl (fun h37 => ?_) (fun h37 => ?_)
          · refine run_ok 2 (c' := (47, [(0, .ref 0), (1, .int (nI h)), (2, .int (nI k)), (3, .int (nI (ggm h R k m))), (4, .int (nI m)), (5, .int (nI (cnt (ggq h R k m) n))), (6, .int (nI n)), (7, .int (nI 0))], [], S)) rfl ?_
            refine run_ok 1 (c' := (49, [(0, .ref 0), (1, .int (nI h)), (2, .int (nI k)), (3, .int (nI (ggm h R k m))), (4, .int (nI m)), (5, .int (nI (cnt (ggq h R k m) n))), (6, .int (nI n)), (7, .int (nI 0))], [.int (nI 0)], S)) rfl ?_
            refine x_ifN_eq 75 rfl rfl (by omega) (fun h49 => ?_) (fun hn => absurd rfl hn)
            refine run_ok 1 (c' := (78, [(0, .ref 0), (1, .int (nI h)), (2, .int (nI k)), (3, .int (nI (ggm h R k m))), (4, .int (nI m)), (5, .int (nI (cnt (ggq h R k m) n))), (6, .int (nI n + nI 1)), (7, .int (nI 0))], [], S)) rfl ?_
            rw [nI_add n 1]
            refine run_ok 1 (c' := (18, [(0, .ref 0), (1, .int (nI h)), (2, .int (nI k)), (3, .int (nI (ggm h R k m))), (4, .int (nI m)), (5, .int (nI (cnt (ggq h R k m) n))), (6, .int (nI (n + 1))), (7, .int (nI 0))], [], S)) rfl ?_
            rw [show cnt (ggq h R k m) (n + 1) = cnt (ggq h R k m) n from cnt_z (decide_eq_false (fun z => h37 z.1))] at ihn
            refine x_less [0, 1, 2, 3, 4, 5, 6] rfl ?_
            exact ihn
          · refine run_ok 3 (c' := (47, [(0, .ref 0), (1, .int (nI h)), (2, .int (nI k)), (3, .int (nI (ggm h R k m))), (4, .int (nI m)), (5, .int (nI (cnt (ggq h R k m) n))), (6, .int (nI n)), (7, .int (nI 1))], [], S)) rfl ?_
            refine run_ok 1 (c' := (49, [(0, .ref 0), (1, .int (nI h)), (2, .int (nI k)), (3, .int (nI (ggm h R k m))), (4, .int (nI m)), (5, .int (nI (cnt (ggq h R k m) n))), (6, .int (nI n)), (7, .int (nI 1))], [.int (nI 1)], S)) rfl ?_
            refine x_ifN_eq 75 rfl rfl (by omega) (fun hn => absurd hn (by omega)) (fun h49 => ?_)
            refine run_ok 3 (c' := (58, [(0, .ref 0), (1, .int (nI h)), (2, .int (nI k)), (3, .int (nI (ggm h R k m))), (4, .int (nI m)), (5, .int (nI (cnt (ggq h R k m) n))), (6, .int (nI n)), (7, .int (nI 1))], [.int (nI m), .ref 47], S)) rfl ?_
            refine x_iaN (nI (R m)) rfl rfl (by decide) (by omega) (h47 m (by omega)) ?_
            refine run_ok 3 (c' := (65, [(0, .ref 0), (1, .int (nI h)), (2, .int (nI k)), (3, .int (nI (ggm h R k m))), (4, .int (nI m)), (5, .int (nI (cnt (ggq h R k m) n))), (6, .int (nI n)), (7, .int (nI 1))], [.int (nI n), .ref 47, .int (nI (R m))], S)) rfl ?_
            refine x_iaN (nI (R n)) rfl rfl (by decide) (by omega) (h47 n (by omega)) ?_
            refine run_ok 3 (c' := (69, [(0, .ref 0), (1, .int (nI h)), (2, .int (nI k)), (3, .int (nI (ggm h R k m))), (4, .int (nI m)), (5, .int (nI (cnt (ggq h R k m) n))), (6, .int (nI n)), (7, .int (nI 1))], [.int (((nI (R m)) ^^^ (nI (R n))) &&& (nI k))], S)) rfl ?_
            refine x_top (v' := nI ((R m ^^^ R n) &&& k)) (by rw [nx_xor, fa_and]) ?_
            refine x_if_ne 75 rfl rfl (fun h69 => ?_) (fun h69 => ?_)
            · refine run_ok 1 (c' := (78, [(0, .ref 0), (1, .int (nI h)), (2, .int (nI k)), (3, .int (nI (ggm h R k m))), (4, .int (nI m)), (5, .int (nI (cnt (ggq h R k m) n))), (6, .int (nI n + nI 1)), (7, .int (nI 1))], [], S)) rfl ?_
              rw [nI_add n 1]
              refine run_ok 1 (c' := (18, [(0, .ref 0), (1, .int (nI h)), (2, .int (nI k)), (3, .int (nI (ggm h R k m))), (4, .int (nI m)), (5, .int (nI (cnt (ggq h R k m) n))), (6, .int (nI (n + 1))), (7, .int (nI 1))], [], S)) rfl ?_
              rw [show cnt (ggq h R k m) (n + 1) = cnt (ggq h R k m) n from cnt_z (decide_eq_false (fun z => h69 ((nI_z (xand_lt hk)).mpr z.2)))] at ihn
              refine x_less [0, 1, 2, 3, 4, 5, 6] rfl ?_
              exact ihn
            · refine run_ok 1 (c' := (75, [(0, .ref 0), (1, .int (nI h)), (2, .int (nI k)), (3, .int (nI (ggm h R k m))), (4, .int (nI m)), (5, .int (nI (cnt (ggq h R k m) n) + nI 1)), (6, .int (nI n)), (7, .int (nI 1))], [], S)) rfl ?_
              rw [nI_add (cnt (ggq h R k m) n) 1]
              refine run_ok 1 (c' := (78, [(0, .ref 0), (1, .int (nI h)), (2, .int (nI k)), (3, .int (nI (ggm h R k m))), (4, .int (nI m)), (5, .int (nI (cnt (ggq h R k m) n + 1))), (6, .int (nI n + nI 1)), (7, .int (nI 1))], [], S)) rfl ?_
              rw [nI_add n 1]
              refine run_ok 1 (c' := (18, [(0, .ref 0), (1, .int (nI h)), (2, .int (nI k)), (3, .int (nI (ggm h R k m))), (4, .int (nI m)), (5, .int (nI (cnt (ggq h R k m) n + 1))), (6, .int (nI (n + 1))), (7, .int (nI 1))], [], S)) rfl ?_
              rw [show cnt (ggq h R k m) (n + 1) = cnt (ggq h R k m) n + 1 from cnt_s (decide_eq_true ⟨h37, (nI_z (xand_lt hk)).mp h69⟩)] at ihn
              refine x_less [0, 1, 2, 3, 4, 5, 6] rfl ?_
              exact ihn
      refine run_ok 2 (c' := (9, [(0, .ref 0), (1, .int (nI h)), (2, .int (nI k)), (3, .int (nI (ggm h R k m))), (4, .int (nI m))], [.int (nI 9), .int (nI m)], S)) rfl ?_
      refine x_icmpN_gt 94 rfl rfl (by omega) (by omega) (fun hn => absurd hn (show ¬ 9 < m by omega)) (fun h9 => ?_)
      refine run_ok 4 (c' := (18, [(0, .ref 0), (1, .int (nI h)), (2, .int (nI k)), (3, .int (nI (ggm h R k m))), (4, .int (nI m)), (5, .int (nI 0)), (6, .int (nI 0))], [], S)) rfl ?_
      exact HI 0 (by omega)
  refine run_ok 4 (c' := (5, [(0, .ref 0), (1, .int (nI h)), (2, .int (nI k)), (3, .int (nI (ggm h R k 0))), (4, .int (nI 0))], [], S)) rfl ?_
  exact H 0 (by omega)

set_option maxHeartbeats 2000000 in
theorem c_weekToAsk (S : ST) (T : TD) (hT : TR 5 T S) (hto : tok T) (h : Nat) (R : Nat → Nat) (hh : h < 1024) (h47 : rh S 47 10 R) : EX me_N_weekToAsk 2 [.ref 0, .int (nI h)] S (fun r u => r = some (.int (whv (wta T h R 24).1)) ∧ fr CQ S u) := by
  refine EX.of mok_N_weekToAsk (Nat.le_of_ble_eq_true rfl) ?_
  obtain ⟨n8, n9, hbt, het, hht, hlo⟩ := id hto
  obtain ⟨t1, t2, t3, t4, t5, t6, t7, t8, t9, t10, t11⟩ := id hT
  have H : ∀ i, i ≤ 24 → ∀ v : ST, BN (wta T h R i) v → fr [36] S v → BX me_N_weekToAsk 2 none (fun r u => r = some (.int (whv (wta T h R 24).1)) ∧ fr CQ S u) (9, [(0, .ref 0), (1, .int (nI h)), (2, .int (nI i))], [], v) := by
    refine loop_up (P := fun i => ∀ v : ST, BN (wta T h R i) v → fr [36] S v → BX me_N_weekToAsk 2 none (fun r u => r = some (.int (whv (wta T h R 24).1)) ∧ fr CQ S u) (9, [(0, .ref 0), (1, .int (nI h)), (2, .int (nI i))], [], v)) 24 ?_ ?_
    · intro v hb hfv
      have hb1 := hb.1
      refine run_ok 2 (c' := (12, [(0, .ref 0), (1, .int (nI h)), (2, .int (nI 24))], [.int (nI 24), .int (nI 24)], v)) rfl ?_
      refine x_icmpN_ge 43 rfl rfl (by omega) (by omega) (fun h12 => ?_) (fun hn => absurd (Nat.le_refl 24) hn)
      refine run_ok 3 (c' := (50, [(0, .ref 0), (1, .int (nI h)), (2, .int (nI 24))], [.int (v.1 36 0)], v)) rfl ?_
      refine x_top (v' := whv (wta T h R 24).1) hb1 ?_
      exact x_ret (r := some (.int (whv (wta T h R 24).1))) rfl rfl trivial ⟨rfl, hfv.sub (by decide)⟩ rfl
    · intro i hi ih v hb hfv
      have q1 := wta_le T h R i (by omega)
      have q3 := ggm_le h R (mrow T i (tnb T)) 10
      have q2 : mrow T i (tnb T) < 4294967296 := by
        rw [mrow_e]
        refine Nat.lt_of_lt_of_le (nro_lt (fun k _ => by split <;> omega)) (Nat.pow_le_pow_right (by decide) n8 : 16 ^ tnb T ≤ 16 ^ 8)
      refine run_ok 2 (c' := (12, [(0, .ref 0), (1, .int (nI h)), (2, .int (nI i))], [.int (nI 24), .int (nI i)], v)) rfl ?_
      refine x_icmpN_ge 43 rfl rfl (by omega) (by omega) (fun hn => absurd hn (show ¬ 24 ≤ i by omega)) (fun h12 => ?_)
      refine run_ok 8 (c' := (27, [(0, .ref 0), (1, .int (nI h)), (2, .int (nI i))], [.int (nI i), .ref 5, .int (nI h), .ref 0, .int (nI i), .ref 36], v)) rfl ?_
      refine x_callV [.int (nI i)] rfl cv_T_rowMask.1 lk_6_369 cv_T_rowMask.2.1 cv_T_rowMask.2.2.1 rfl cv_T_rowMask.2.2.2.1 rfl rfl (Nat.le_of_ble_eq_true rfl) (by decide) cv_T_rowMask.2.2.2.2 (c_rowMask v T i (hT.keep hfv (by decide)) hto (by omega)) ?_
      rintro r x ⟨hr, hu⟩
      rw [hr, hu]
      clear hr hu r x
      refine x_callV [.int (nI h), .int (nI (mrow T i (tnb T)))] rfl cv_N_greatestGroup.1 lk_6_372 cv_N_greatestGroup.2.1 cv_N_greatestGroup.2.2.1 rfl cv_N_greatestGroup.2.2.2.1 rfl rfl (Nat.le_of_ble_eq_true rfl) (by decide) cv_N_greatestGroup.2.2.2.2 (c_greatest v h (mrow T i (tnb T)) R hh q2 (h47.keep hfv (by decide))) ?_
      rintro r x ⟨hr, hu⟩
      rw [hr, hu]
      clear hr hu r x
      refine run_ok 1 (c' := (34, [(0, .ref 0), (1, .int (nI h)), (2, .int (nI i))], [.int (-(nI (ggm h R (mrow T i (tnb T)) 10))), .int (nI i), .ref 36], v)) rfl ?_
      refine x_callV [.int (nI i), .int (-(nI (ggm h R (mrow T i (tnb T)) 10)))] rfl cv_B_offer.1 lk_6_183 cv_B_offer.2.1 cv_B_offer.2.2.1 rfl cv_B_offer.2.2.2.1 rfl rfl (Nat.le_of_ble_eq_true rfl) (by decide) cv_B_offer.2.2.2.2 (c_offerD v (wta T h R i) i (ggm h R (mrow T i (tnb T)) 10) hb (by omega) (by omega) (by omega) (by omega)) ?_
      rintro r z ⟨hr, hbz, hfz, h2z⟩
      rw [hr]
      clear hr r
      refine run_ok 1 (c' := (40, [(0, .ref 0), (1, .int (nI h)), (2, .int (nI i + nI 1))], [], z)) rfl ?_
      rw [nI_add i 1]
      refine run_ok 1 (c' := (9, [(0, .ref 0), (1, .int (nI h)), (2, .int (nI (i + 1)))], [], z)) rfl ?_
      exact ih z hbz (hfv.tr hfz)
  refine run_ok 2 (c' := (4, [(0, .ref 0), (1, .int (nI h))], [.ref 36], S)) rfl ?_
  refine x_callV [] rfl cv_B_clear.1 lk_6_177 cv_B_clear.2.1 cv_B_clear.2.2.1 rfl cv_B_clear.2.2.2.1 rfl rfl (Nat.le_of_ble_eq_true rfl) (by decide) cv_B_clear.2.2.2.2 (c_clear S) ?_
  rintro r x ⟨hr, hv⟩
  rw [hr, hv]
  clear hr hv r x
  refine run_ok 2 (c' := (9, [(0, .ref 0), (1, .int (nI h)), (2, .int (nI 0))], [], (pt (pt S 36 0 (-1)) 36 1 (nI 0)))) rfl ?_
  exact H 0 (by omega) _ ⟨rfl, (by decide : nI 0 = -(nI 0))⟩ ((fr.rf.pt (by decide)).pt (by decide))

set_option maxHeartbeats 2000000 in
theorem c_ask_bad (S : ST) (x y : Int32) (hbad : ¬ ((0 ≤ x ∧ x < nI 8) ∧ (0 ≤ y ∧ y < nI 8) ∧ ¬ x = y)) : EX me_N_ask 7 [.ref 0, .int x, .int y] S (fun r u => r = some (.int ((-2))) ∧ u = S) := by
  refine EX.of mok_N_ask (Nat.le_of_ble_eq_true rfl) ?_
  refine run_ok 2 (c' := (2, [(0, .ref 0), (1, .int x), (2, .int y)], [.int y, .int x], S)) rfl ?_
  refine x_callS [.int x, .int y] rfl cs_N_areTwo.1 lk_6_97 cs_N_areTwo.2.1 rfl rfl (Nat.le_of_ble_eq_true rfl) (by decide) cs_N_areTwo.2.2 (c_areTwo S (x) (y)) ?_
  rintro r u ⟨hr, hu⟩
  rw [hr, hu]
  clear hr hu r u
  refine x_ifB_ne 11 rfl rfl (fun h5 => ?_) (fun h5 => ?_)
  · exact absurd h5 hbad
  · refine run_ok 1 (c' := (10, [(0, .ref 0), (1, .int x), (2, .int y)], [.int (-2)], S)) rfl ?_
    exact x_ret (r := some (.int (-2))) rfl rfl trivial ⟨rfl, rfl⟩ rfl

set_option maxHeartbeats 2000000 in
theorem c_ask_ok (S : ST) (T : TD) (hT : TR 5 T S) (hto : tok T) (hne : tne T ≤ 8) (G : SD) (hg : SR G S) (hgo : sok G) (p q : Nat) (hp : p < 8) (hq : q < 8) (hpq : p ≠ q) : EX me_N_ask 7 [.ref 0, .int (nI p), .int (nI q)] S (fun r u => r = some (.int (whv (wta T (bst (fun i => fitb (wh T (upn (th T) (8 * p + q) i)) (vo (wh T (upn (th T) (8 * p + q) i)) 24) G G.1) 10) (fun i => nro (nmb (wh T (upn (th T) (8 * p + q) i)) (vo (wh T (upn (th T) (8 * p + q) i)) 24) 23) (tnb T)) 24).1)) ∧ fr CQ S u) := by
  refine EX.of mok_N_ask (Nat.le_of_ble_eq_true rfl) ?_
  obtain ⟨n8, n9, hbt, het, hht, hlo⟩ := id hto
  obtain ⟨t1, t2, t3, t4, t5, t6, t7, t8, t9, t10, t11⟩ := id hT
  refine run_ok 2 (c' := (2, [(0, .ref 0), (1, .int (nI p)), (2, .int (nI q))], [.int (nI q), .int (nI p)], S)) rfl ?_
  refine x_callS [.int (nI p), .int (nI q)] rfl cs_N_areTwo.1 lk_6_97 cs_N_areTwo.2.1 rfl rfl (Nat.le_of_ble_eq_true rfl) (by decide) cs_N_areTwo.2.2 (c_areTwo S (nI p) (nI q)) ?_
  rintro r u ⟨hr, hu⟩
  rw [hr, hu]
  clear hr hu r u
  refine x_ifB_ne 11 rfl rfl (fun h5 => ?_) (fun hn => absurd (two_t hp hq hpq) hn)
  refine run_ok 4 (c' := (15, [(0, .ref 0), (1, .int (nI p)), (2, .int (nI q))], [.int (nI q), .int (nI p), .ref 0, .ref 0], S)) rfl ?_
  refine x_callV [.int (nI p), .int (nI q)] rfl cv_N_seekHated.1 lk_6_229 cv_N_seekHated.2.1 cv_N_seekHated.2.2.1 rfl cv_N_seekHated.2.2.2.1 rfl rfl (Nat.le_of_ble_eq_true rfl) (by decide) cv_N_seekHated.2.2.2.2 (c_seekHated S T hT hto hne G hg hgo p q hp hq) ?_
  rintro r u ⟨hr, h47, hfu⟩
  rw [hr]
  clear hr r
  refine x_callV [.int (nI (bst (fun i => fitb (wh T (upn (th T) (8 * p + q) i)) (vo (wh T (upn (th T) (8 * p + q) i)) 24) G G.1) 10))] rfl cv_N_weekToAsk.1 lk_6_232 cv_N_weekToAsk.2.1 cv_N_weekToAsk.2.2.1 rfl cv_N_weekToAsk.2.2.2.1 rfl rfl (Nat.le_of_ble_eq_true rfl) (by decide) cv_N_weekToAsk.2.2.2.2 (c_weekToAsk u T (hT.keep hfu (by decide)) hto (bst (fun i => fitb (wh T (upn (th T) (8 * p + q) i)) (vo (wh T (upn (th T) (8 * p + q) i)) 24) G G.1) 10) _ (bst_lt _ 10) h47) ?_
  rintro r z ⟨hr, hfz⟩
  rw [hr]
  clear hr r
  exact x_ret (r := some (.int (whv (wta T (bst (fun i => fitb (wh T (upn (th T) (8 * p + q) i)) (vo (wh T (upn (th T) (8 * p + q) i)) 24) G G.1) 10) (fun i => nro (nmb (wh T (upn (th T) (8 * p + q) i)) (vo (wh T (upn (th T) (8 * p + q) i)) 24) 23) (tnb T)) 24).1))) rfl rfl trivial ⟨rfl, hfu.tr hfz⟩ rfl

def sdq (x : Int32) : Nat → Int32
  | 0 => x
  | i + 1 => nsd (nsd (nsd (sdq x i)))
def dkd (x : Int32) (i : Nat) : Nat := lot (nsd (sdq x i)) % 3
def dwk (x : Int32) (i : Nat) : Nat := lot (nsd (nsd (sdq x i))) % 24
def dbt (x : Int32) (nb i : Nat) : Nat := lot (nsd (nsd (nsd (sdq x i)))) % nb
def dec (T : TD) (x : Int32) (n : Nat) : TD := wev T (if tnb T = 0 then 0 else n) (dkd x) (dwk x) (dbt x (tnb T))
theorem TR_wev {t : Nat} {T : TD} {n : Nat} {a b c a' b' c' : Nat → Nat} {u : ST} (h : TR t (wev T n a b c) u) (ha : ∀ e, e < n → a' e = a e) (hb : ∀ e, e < n → b' e = b e) (hc : ∀ e, e < n → c' e = c e) : TR t (wev T n a' b' c') u := by
  obtain ⟨h1, h2, h3, h4, h5, h6, h7, h8, h9, h10, h11⟩ := h
  exact ⟨h1, h2, h3, h4, h5, h6.cg ha, h7.cg hb, h8.cg hc, h9, h10, h11⟩
theorem tok_dec {T : TD} (h : tok T) (x : Int32) {n : Nat} (hn : n ≤ 8) : tok (dec T x n) := by
  refine ⟨h.1, ?_, h.2.2.1, fun e he => ?_, h.2.2.2.2.1, h.2.2.2.2.2⟩
  · show (if tnb T = 0 then 0 else n) ≤ 9
    split <;> omega
  · have he' : e < (if tnb T = 0 then 0 else n) := he
    have h8 := h.1
    split at he'
    · omega
    · refine ⟨Nat.mod_lt _ (by decide), Nat.mod_lt _ (by decide), ?_⟩
      show lot _ % tnb T < 8
      have := Nat.mod_lt (lot (nsd (nsd (nsd (sdq x e))))) (show 0 < tnb T by omega)
      omega
set_option maxHeartbeats 2000000 in
theorem c_drawEvents (S : ST) (T : TD) (x : Int32) (n : Nat) (hT : TR 14 T S) (hto : tok T) (hn : n ≤ 8) : EX me_T_drawEvents 1 [.ref 14, .int x, .int (nI n)] S (fun r u => r = none ∧ TR 14 (dec T x n) u ∧ fr TL S u ∧ u.2 = S.2) := by
  refine EX.of mok_T_drawEvents (Nat.le_of_ble_eq_true rfl) ?_
  obtain ⟨n8, n9, hbt, het, hht, hlo⟩ := id hto
  obtain ⟨t1, t2, t3, t4, t5, t6, t7, t8, t9, t10, t11⟩ := id hT
  by_cases h0 : tnb T = 0
  · have H0 : BX me_T_drawEvents 1 none (fun r u => r = none ∧ TR 14 (dec T x n) u ∧ fr TL S u ∧ u.2 = S.2) (10, [(0, .ref 14), (1, .int x), (2, .int (nI n)), (3, .int (sdq x 0)), (4, .int (nI 0))], [], pt S 14 10 (nI 0)) := by
      refine run_ok 2 (c' := (13, [(0, .ref 14), (1, .int x), (2, .int (nI n)), (3, .int (sdq x 0)), (4, .int (nI 0))], [.int (nI n), .int (nI 0)], (pt S 14 10 (nI 0)))) rfl ?_
      refine x_icmpN_ge 76 rfl rfl (by omega) (by omega) (fun h13 => ?_) (fun h13 => ?_)
      · exact x_ret (r := none) rfl rfl trivial ⟨rfl, (show TR 14 (dec T x n) (pt S 14 10 (nI 0)) from ⟨t1, t2, t3, t4, t5, fun j hj => absurd hj (by show ¬ j < (if tnb T = 0 then 0 else n); rw [if_pos h0]; omega), fun j hj => absurd hj (by show ¬ j < (if tnb T = 0 then 0 else n); rw [if_pos h0]; omega), fun j hj => absurd hj (by show ¬ j < (if tnb T = 0 then 0 else n); rw [if_pos h0]; omega), t9, (show nI 0 = nI (if tnb T = 0 then 0 else n) by rw [if_pos h0]), t11⟩), fr.rf.pt (by decide), rfl⟩ rfl
      · refine run_ok 2 (c' := (20, [(0, .ref 14), (1, .int x), (2, .int (nI n)), (3, .int (sdq x 0)), (4, .int (nI 0))], [.int (S.1 14 6)], (pt S 14 10 (nI 0)))) rfl ?_
        refine x_top (v' := nI (tnb T)) t9 ?_
        refine x_ifN_le 76 rfl rfl (by omega) (fun h20 => ?_) (fun hn => absurd (show tnb T ≤ 0 by omega) hn)
        exact x_ret (r := none) rfl rfl trivial ⟨rfl, (show TR 14 (dec T x n) (pt S 14 10 (nI 0)) from ⟨t1, t2, t3, t4, t5, fun j hj => absurd hj (by show ¬ j < (if tnb T = 0 then 0 else n); rw [if_pos h0]; omega), fun j hj => absurd hj (by show ¬ j < (if tnb T = 0 then 0 else n); rw [if_pos h0]; omega), fun j hj => absurd hj (by show ¬ j < (if tnb T = 0 then 0 else n); rw [if_pos h0]; omega), t9, (show nI 0 = nI (if tnb T = 0 then 0 else n) by rw [if_pos h0]), t11⟩), fr.rf.pt (by decide), rfl⟩ rfl
    refine run_ok 7 (c' := (10, [(0, .ref 14), (1, .int x), (2, .int (nI n)), (3, .int (sdq x 0)), (4, .int (nI 0))], [], pt S 14 10 (nI 0))) rfl ?_
    exact H0
  · have H : ∀ i, i ≤ n → ∀ v : ST, TR 14 (wev T i (dkd x) (dwk x) (dbt x (tnb T))) v → fr TL S v → v.2 = S.2 → BX me_T_drawEvents 1 none (fun r u => r = none ∧ TR 14 (dec T x n) u ∧ fr TL S u ∧ u.2 = S.2) (10, [(0, .ref 14), (1, .int x), (2, .int (nI n)), (3, .int (sdq x i)), (4, .int (nI i))], [], v) := by
      refine loop_up (P := fun i => ∀ v : ST, TR 14 (wev T i (dkd x) (dwk x) (dbt x (tnb T))) v → fr TL S v → v.2 = S.2 → BX me_T_drawEvents 1 none (fun r u => r = none ∧ TR 14 (dec T x n) u ∧ fr TL S u ∧ u.2 = S.2) (10, [(0, .ref 14), (1, .int x), (2, .int (nI n)), (3, .int (sdq x i)), (4, .int (nI i))], [], v)) n ?_ ?_
      · intro v hTv hfv h2
        refine run_ok 2 (c' := (13, [(0, .ref 14), (1, .int x), (2, .int (nI n)), (3, .int (sdq x n)), (4, .int (nI n))], [.int (nI n), .int (nI n)], v)) rfl ?_
        refine x_icmpN_ge 76 rfl rfl (by omega) (by omega) (fun h13 => ?_) (fun hn => absurd (Nat.le_refl _) hn)
        exact x_ret (r := none) rfl rfl trivial ⟨rfl, by unfold dec; rw [if_neg h0]; exact hTv, hfv, h2⟩ rfl
      · intro i hi ih v hTv hfv h2
        have q1 := lot_lt (nsd (sdq x i))
        have q2 := lot_lt (nsd (nsd (sdq x i)))
        have q3 := lot_lt (nsd (nsd (nsd (sdq x i))))
        have t9v : v.1 14 6 = nI (tnb T) := hTv.2.2.2.2.2.2.2.2.1
        refine run_ok 2 (c' := (13, [(0, .ref 14), (1, .int x), (2, .int (nI n)), (3, .int (sdq x i)), (4, .int (nI i))], [.int (nI n), .int (nI i)], v)) rfl ?_
        refine x_icmpN_ge 76 rfl rfl (by omega) (by omega) (fun hn => absurd hn (show ¬ n ≤ i by omega)) (fun h13 => ?_)
        refine run_ok 2 (c' := (20, [(0, .ref 14), (1, .int x), (2, .int (nI n)), (3, .int (sdq x i)), (4, .int (nI i))], [.int (v.1 14 6)], v)) rfl ?_
        refine x_top (v' := nI (tnb T)) t9v ?_
        refine x_ifN_le 76 rfl rfl (by omega) (fun hn => absurd hn (show ¬ tnb T ≤ 0 by omega)) (fun h20 => ?_)
        refine run_ok 1 (c' := (24, [(0, .ref 14), (1, .int x), (2, .int (nI n)), (3, .int (sdq x i)), (4, .int (nI i))], [.int (sdq x i)], v)) rfl ?_
        refine x_callS [.int (sdq x i)] rfl cs_T_nextSeed.1 lk_3_89 cs_T_nextSeed.2.1 rfl rfl (Nat.le_of_ble_eq_true rfl) (by decide) cs_T_nextSeed.2.2 (c_nextSeed v (sdq x i)) ?_
        rintro r y ⟨hr, hu⟩
        rw [hr, hu]
        clear hr hu r y
        refine run_ok 2 (c' := (31, [(0, .ref 14), (1, .int x), (2, .int (nI n)), (3, .int (sdq x i)), (4, .int (nI i)), (5, .int (nsd (sdq x i)))], [.int (nsd (sdq x i))], v)) rfl ?_
        refine x_callS [.int (nsd (sdq x i))] rfl cs_T_nextSeed.1 lk_3_89 cs_T_nextSeed.2.1 rfl rfl (Nat.le_of_ble_eq_true rfl) (by decide) cs_T_nextSeed.2.2 (c_nextSeed v (nsd (sdq x i))) ?_
        rintro r y ⟨hr, hu⟩
        rw [hr, hu]
        clear hr hu r y
        refine run_ok 2 (c' := (38, [(0, .ref 14), (1, .int x), (2, .int (nI n)), (3, .int (sdq x i)), (4, .int (nI i)), (5, .int (nsd (sdq x i))), (6, .int (nsd (nsd (sdq x i))))], [.int (nsd (nsd (sdq x i)))], v)) rfl ?_
        refine x_callS [.int (nsd (nsd (sdq x i)))] rfl cs_T_nextSeed.1 lk_3_89 cs_T_nextSeed.2.1 rfl rfl (Nat.le_of_ble_eq_true rfl) (by decide) cs_T_nextSeed.2.2 (c_nextSeed v (nsd (nsd (sdq x i)))) ?_
        rintro r y ⟨hr, hu⟩
        rw [hr, hu]
        clear hr hu r y
        refine run_ok 5 (c' := (48, [(0, .ref 14), (1, .int x), (2, .int (nI n)), (3, .int (nsd (nsd (nsd (sdq x i))))), (4, .int (nI i)), (5, .int (nsd (sdq x i))), (6, .int (nsd (nsd (sdq x i))))], [.int (((nsd (sdq x i)).toUInt32 >>> ((nI 16).toUInt32 &&& Int32.toUInt32 31)).toInt32), .ref 14], v)) rfl ?_
        refine x_top (v' := nI (lot (nsd (sdq x i)))) (lot_e _) ?_
        refine run_ok 1 (c' := (49, [(0, .ref 14), (1, .int x), (2, .int (nI n)), (3, .int (nsd (nsd (nsd (sdq x i))))), (4, .int (nI i)), (5, .int (nsd (sdq x i))), (6, .int (nsd (nsd (sdq x i))))], [.int (nI 3), .int (nI (lot (nsd (sdq x i)))), .ref 14], v)) rfl ?_
        refine x_irem rfl (by decide) ?_
        refine x_top (v' := nI ((lot (nsd (sdq x i))) % 3)) (pk_rem (by omega) (by omega) (by omega)) ?_
        refine run_ok 3 (c' := (55, [(0, .ref 14), (1, .int x), (2, .int (nI n)), (3, .int (nsd (nsd (nsd (sdq x i))))), (4, .int (nI i)), (5, .int (nsd (sdq x i))), (6, .int (nsd (nsd (sdq x i))))], [.int (((nsd (nsd (sdq x i))).toUInt32 >>> ((nI 16).toUInt32 &&& Int32.toUInt32 31)).toInt32), .int (nI ((lot (nsd (sdq x i))) % 3)), .ref 14], v)) rfl ?_
        refine x_top (v' := nI (lot (nsd (nsd (sdq x i))))) (lot_e _) ?_
        refine run_ok 1 (c' := (57, [(0, .ref 14), (1, .int x), (2, .int (nI n)), (3, .int (nsd (nsd (nsd (sdq x i))))), (4, .int (nI i)), (5, .int (nsd (sdq x i))), (6, .int (nsd (nsd (sdq x i))))], [.int (nI 24), .int (nI (lot (nsd (nsd (sdq x i))))), .int (nI ((lot (nsd (sdq x i))) % 3)), .ref 14], v)) rfl ?_
        refine x_irem rfl (by decide) ?_
        refine x_top (v' := nI ((lot (nsd (nsd (sdq x i)))) % 24)) (pk_rem (by omega) (by omega) (by omega)) ?_
        refine run_ok 3 (c' := (62, [(0, .ref 14), (1, .int x), (2, .int (nI n)), (3, .int (nsd (nsd (nsd (sdq x i))))), (4, .int (nI i)), (5, .int (nsd (sdq x i))), (6, .int (nsd (nsd (sdq x i))))], [.int (((nsd (nsd (nsd (sdq x i)))).toUInt32 >>> ((nI 16).toUInt32 &&& Int32.toUInt32 31)).toInt32), .int (nI ((lot (nsd (nsd (sdq x i)))) % 24)), .int (nI ((lot (nsd (sdq x i))) % 3)), .ref 14], v)) rfl ?_
        refine x_top (v' := nI (lot (nsd (nsd (nsd (sdq x i)))))) (lot_e _) ?_
        refine run_ok 2 (c' := (66, [(0, .ref 14), (1, .int x), (2, .int (nI n)), (3, .int (nsd (nsd (nsd (sdq x i))))), (4, .int (nI i)), (5, .int (nsd (sdq x i))), (6, .int (nsd (nsd (sdq x i))))], [.int (v.1 14 6), .int (nI (lot (nsd (nsd (nsd (sdq x i)))))), .int (nI ((lot (nsd (nsd (sdq x i)))) % 24)), .int (nI ((lot (nsd (sdq x i))) % 3)), .ref 14], v)) rfl ?_
        refine x_top (v' := nI (tnb T)) t9v ?_
        refine x_irem rfl (nI_ne0 (by omega) (by omega)) ?_
        refine x_top (v' := nI ((lot (nsd (nsd (nsd (sdq x i))))) % (tnb T))) (pk_rem (by omega) (by omega) (by omega)) ?_
        refine x_callV [.int (nI ((lot (nsd (sdq x i))) % 3)), .int (nI ((lot (nsd (nsd (sdq x i)))) % 24)), .int (nI ((lot (nsd (nsd (nsd (sdq x i))))) % (tnb T)))] rfl cv_T_addEvent.1 lk_3_92 cv_T_addEvent.2.1 cv_T_addEvent.2.2.1 rfl cv_T_addEvent.2.2.2.1 rfl rfl (Nat.le_of_ble_eq_true rfl) (by decide) cv_T_addEvent.2.2.2.2 (c_addEvent14 v (wev T i (dkd x) (dwk x) (dbt x (tnb T))) (dkd x i) (dwk x i) (dbt x (tnb T) i) hTv (by show i ≤ 8; omega)) ?_
        rintro r z ⟨hr, hTz, hfz, h2z⟩
        rw [hr]
        clear hr r
        refine run_ok 1 (c' := (73, [(0, .ref 14), (1, .int x), (2, .int (nI n)), (3, .int (nsd (nsd (nsd (sdq x i))))), (4, .int (nI i + nI 1)), (5, .int (nsd (sdq x i))), (6, .int (nsd (nsd (sdq x i))))], [], z)) rfl ?_
        rw [nI_add i 1]
        refine run_ok 1 (c' := (10, [(0, .ref 14), (1, .int x), (2, .int (nI n)), (3, .int (nsd (nsd (nsd (sdq x i))))), (4, .int (nI (i + 1))), (5, .int (nsd (sdq x i))), (6, .int (nsd (nsd (sdq x i))))], [], z)) rfl ?_
        refine x_less [0, 1, 2, 3, 4] rfl ?_
        refine ih z (TR_wev (T := T) (n := i + 1) hTz (fun e _ => ?_) (fun e _ => ?_) (fun e _ => ?_)) (hfv.tr (hfz.sub (by decide))) (h2z.trans h2) <;> (show _ = upn _ i _ e; unfold upn; split; (rename_i q; rw [q]); rfl)
    refine run_ok 7 (c' := (10, [(0, .ref 14), (1, .int x), (2, .int (nI n)), (3, .int (sdq x 0)), (4, .int (nI 0))], [], pt S 14 10 (nI 0))) rfl ?_
    exact H 0 (by omega) _ ⟨t1, t2, t3, t4, t5, fun j hj => absurd hj (Nat.not_lt_zero _), fun j hj => absurd hj (Nat.not_lt_zero _), fun j hj => absurd hj (Nat.not_lt_zero _), t9, rfl, t11⟩ (fr.rf.pt (by decide)) rfl

set_option maxHeartbeats 2000000 in
theorem c_decades_bad (S : ST) (x y z : Int32) (hbad : ¬ ((0 ≤ y ∧ y < nI 9) ∧ (0 ≤ z ∧ z < nI 2))) : EX me_N_decades 5 [.ref 0, .int x, .int y, .int z] S (fun r u => r = some (.int ((-2))) ∧ u = S) := by
  refine EX.of mok_N_decades (Nat.le_of_ble_eq_true rfl) ?_
  refine run_ok 2 (c' := (3, [(0, .ref 0), (1, .int x), (2, .int y), (3, .int z)], [.int (nI 9), .int y], S)) rfl ?_
  refine x_callS [.int y, .int (nI 9)] rfl cs_N_isBelow.1 lk_6_73 cs_N_isBelow.2.1 rfl rfl (Nat.le_of_ble_eq_true rfl) (by decide) cs_N_isBelow.2.2 (c_isBelow S (y) (nI 9)) ?_
  rintro r u ⟨hr, hu⟩
  rw [hr, hu]
  clear hr hu r u
  refine x_ifB_eq 17 rfl rfl (fun h6 => ?_) (fun h6 => ?_)
  · refine run_ok 1 (c' := (19, [(0, .ref 0), (1, .int x), (2, .int y), (3, .int z)], [.int (-2)], S)) rfl ?_
    exact x_ret (r := some (.int (-2))) rfl rfl trivial ⟨rfl, rfl⟩ rfl
  · refine run_ok 2 (c' := (11, [(0, .ref 0), (1, .int x), (2, .int y), (3, .int z)], [.int (nI 2), .int z], S)) rfl ?_
    refine x_callS [.int z, .int (nI 2)] rfl cs_N_isBelow.1 lk_6_73 cs_N_isBelow.2.1 rfl rfl (Nat.le_of_ble_eq_true rfl) (by decide) cs_N_isBelow.2.2 (c_isBelow S (z) (nI 2)) ?_
    rintro r u ⟨hr, hu⟩
    rw [hr, hu]
    clear hr hu r u
    refine x_ifB_ne 20 rfl rfl (fun h14 => ?_) (fun h14 => ?_)
    · exact absurd ⟨h6, h14⟩ hbad
    · refine run_ok 1 (c' := (19, [(0, .ref 0), (1, .int x), (2, .int y), (3, .int z)], [.int (-2)], S)) rfl ?_
      exact x_ret (r := some (.int (-2))) rfl rfl trivial ⟨rfl, rfl⟩ rfl

set_option maxHeartbeats 2000000 in
theorem c_decades_ok0 (S : ST) (T : TD) (hT : TR 5 T S) (hto : tok T) (hne : tne T ≤ 8) (x : Int32) (n : Nat) (hn : n ≤ 8) : EX me_N_decades 5 [.ref 0, .int x, .int (nI n), .int (nI 0)] S (fun r u => r = some (.int (nI (cnt (fun k => decide (vis (vo (dec T x n) 24) k = 2)) (tnb T)))) ∧ fr CQ S u) := by
  refine EX.of mok_N_decades (Nat.le_of_ble_eq_true rfl) ?_
  obtain ⟨n8, n9, hbt, het, hht, hlo⟩ := id hto
  obtain ⟨t1, t2, t3, t4, t5, t6, t7, t8, t9, t10, t11⟩ := id hT
  refine run_ok 2 (c' := (3, [(0, .ref 0), (1, .int x), (2, .int (nI n)), (3, .int (nI 0))], [.int (nI 9), .int (nI n)], S)) rfl ?_
  refine x_callS [.int (nI n), .int (nI 9)] rfl cs_N_isBelow.1 lk_6_73 cs_N_isBelow.2.1 rfl rfl (Nat.le_of_ble_eq_true rfl) (by decide) cs_N_isBelow.2.2 (c_isBelow S (nI n) (nI 9)) ?_
  rintro r u ⟨hr, hu⟩
  rw [hr, hu]
  clear hr hu r u
  refine x_ifB_eq 17 rfl rfl (fun hn => absurd hn (fun z => z (inr_t (by omega) (by decide)))) (fun h6 => ?_)
  refine run_ok 2 (c' := (11, [(0, .ref 0), (1, .int x), (2, .int (nI n)), (3, .int (nI 0))], [.int (nI 2), .int (nI 0)], S)) rfl ?_
  refine x_callS [.int (nI 0), .int (nI 2)] rfl cs_N_isBelow.1 lk_6_73 cs_N_isBelow.2.1 rfl rfl (Nat.le_of_ble_eq_true rfl) (by decide) cs_N_isBelow.2.2 (c_isBelow S (nI 0) (nI 2)) ?_
  rintro r u ⟨hr, hu⟩
  rw [hr, hu]
  clear hr hu r u
  refine x_ifB_ne 20 rfl rfl (fun h14 => ?_) (fun hn => absurd (inr_t (by decide) (by decide)) hn)
  refine run_ok 4 (c' := (28, [(0, .ref 0), (1, .int x), (2, .int (nI n)), (3, .int (nI 0))], [.ref 5, .ref 14], S)) rfl ?_
  refine x_callV [.ref 5] rfl cv_T_become.1 lk_6_220 cv_T_become.2.1 cv_T_become.2.2.1 rfl cv_T_become.2.2.2.1 rfl rfl (Nat.le_of_ble_eq_true rfl) (by decide) cv_T_become.2.2.2.2 (c_become S T hT hto hne) ?_
  rintro r v1 ⟨hr, hTb, hfb, h2b⟩
  rw [hr]
  clear hr r
  refine run_ok 4 (c' := (37, [(0, .ref 0), (1, .int x), (2, .int (nI n)), (3, .int (nI 0))], [.int (nI n), .int x, .ref 14], v1)) rfl ?_
  refine x_callV [.int x, .int (nI n)] rfl cv_T_drawEvents.1 lk_6_249 cv_T_drawEvents.2.1 cv_T_drawEvents.2.2.1 rfl cv_T_drawEvents.2.2.2.1 rfl rfl (Nat.le_of_ble_eq_true rfl) (by decide) cv_T_drawEvents.2.2.2.2 (c_drawEvents v1 T x n hTb hto hn) ?_
  rintro r v2 ⟨hr, hTd, hfd, h2d⟩
  rw [hr]
  clear hr r
  refine run_ok 5 (c' := (50, [(0, .ref 0), (1, .int x), (2, .int (nI n)), (3, .int (nI 0))], [.int (nI 23), .ref 14, .ref 23], v2)) rfl ?_
  refine x_callV [.ref 14, .int (nI 23)] rfl cv_V_run.1 lk_6_146 cv_V_run.2.1 cv_V_run.2.2.1 rfl cv_V_run.2.2.2.1 rfl rfl (Nat.le_of_ble_eq_true rfl) (by decide) cv_V_run.2.2.2.2 (c_run14 v2 (dec T x n) 23 hTd (tok_dec hto x hn) (by omega)) ?_
  rintro r u ⟨hr, hCu, hfu, h2u⟩
  rw [hr]
  clear hr r
  have h29 := hCu.2.2.2.2.2.1
  refine run_ok 3 (c' := (58, [(0, .ref 0), (1, .int x), (2, .int (nI n)), (3, .int (nI 0))], [.int (nI 0), .ref 23], u)) rfl ?_
  refine x_ifN_ne 65 rfl rfl (by omega) (fun hn => absurd (by decide) hn) (fun h58 => ?_)
  refine run_ok 2 (c' := (66, [(0, .ref 0), (1, .int x), (2, .int (nI n)), (3, .int (nI 0))], [.int (nI 2), .ref 23], u)) rfl ?_
  refine x_callV [.int (nI 2)] rfl cv_V_howMany.1 lk_6_161 cv_V_howMany.2.1 cv_V_howMany.2.2.1 rfl cv_V_howMany.2.2.2.1 rfl rfl (Nat.le_of_ble_eq_true rfl) (by decide) cv_V_howMany.2.2.2.2 (c_howMany14 u (dec T x n) (vo (dec T x n) 24) _ (hTd.keep hfu (by decide)) (tok_dec hto x hn) hCu (vk_vo (tok_dec hto x hn) 24 (by omega)).1 2 (by decide)) ?_
  rintro r q ⟨hr, hu⟩
  rw [hr, hu]
  clear hr hu r q
  exact x_ret (r := some (.int (nI (cnt (fun k => decide (vis (vo (dec T x n) 24) k = 2)) (tnb T))))) rfl rfl trivial ⟨rfl, ((hfb.sub (by decide)).tr (hfd.sub (by decide))).tr (hfu.sub (by decide))⟩ rfl

set_option maxHeartbeats 2000000 in
theorem c_decades_ok1 (S : ST) (T : TD) (hT : TR 5 T S) (hto : tok T) (hne : tne T ≤ 8) (x : Int32) (n : Nat) (hn : n ≤ 8) : EX me_N_decades 5 [.ref 0, .int x, .int (nI n), .int (nI 1)] S (fun r u => r = some (.int (nI (cnt (fun k => decide (vis (vo (dec T x n) 24) k = 1)) (tnb T)))) ∧ fr CQ S u) := by
  refine EX.of mok_N_decades (Nat.le_of_ble_eq_true rfl) ?_
  obtain ⟨n8, n9, hbt, het, hht, hlo⟩ := id hto
  obtain ⟨t1, t2, t3, t4, t5, t6, t7, t8, t9, t10, t11⟩ := id hT
  refine run_ok 2 (c' := (3, [(0, .ref 0), (1, .int x), (2, .int (nI n)), (3, .int (nI 1))], [.int (nI 9), .int (nI n)], S)) rfl ?_
  refine x_callS [.int (nI n), .int (nI 9)] rfl cs_N_isBelow.1 lk_6_73 cs_N_isBelow.2.1 rfl rfl (Nat.le_of_ble_eq_true rfl) (by decide) cs_N_isBelow.2.2 (c_isBelow S (nI n) (nI 9)) ?_
  rintro r u ⟨hr, hu⟩
  rw [hr, hu]
  clear hr hu r u
  refine x_ifB_eq 17 rfl rfl (fun hn => absurd hn (fun z => z (inr_t (by omega) (by decide)))) (fun h6 => ?_)
  refine run_ok 2 (c' := (11, [(0, .ref 0), (1, .int x), (2, .int (nI n)), (3, .int (nI 1))], [.int (nI 2), .int (nI 1)], S)) rfl ?_
  refine x_callS [.int (nI 1), .int (nI 2)] rfl cs_N_isBelow.1 lk_6_73 cs_N_isBelow.2.1 rfl rfl (Nat.le_of_ble_eq_true rfl) (by decide) cs_N_isBelow.2.2 (c_isBelow S (nI 1) (nI 2)) ?_
  rintro r u ⟨hr, hu⟩
  rw [hr, hu]
  clear hr hu r u
  refine x_ifB_ne 20 rfl rfl (fun h14 => ?_) (fun hn => absurd (inr_t (by decide) (by decide)) hn)
  refine run_ok 4 (c' := (28, [(0, .ref 0), (1, .int x), (2, .int (nI n)), (3, .int (nI 1))], [.ref 5, .ref 14], S)) rfl ?_
  refine x_callV [.ref 5] rfl cv_T_become.1 lk_6_220 cv_T_become.2.1 cv_T_become.2.2.1 rfl cv_T_become.2.2.2.1 rfl rfl (Nat.le_of_ble_eq_true rfl) (by decide) cv_T_become.2.2.2.2 (c_become S T hT hto hne) ?_
  rintro r v1 ⟨hr, hTb, hfb, h2b⟩
  rw [hr]
  clear hr r
  refine run_ok 4 (c' := (37, [(0, .ref 0), (1, .int x), (2, .int (nI n)), (3, .int (nI 1))], [.int (nI n), .int x, .ref 14], v1)) rfl ?_
  refine x_callV [.int x, .int (nI n)] rfl cv_T_drawEvents.1 lk_6_249 cv_T_drawEvents.2.1 cv_T_drawEvents.2.2.1 rfl cv_T_drawEvents.2.2.2.1 rfl rfl (Nat.le_of_ble_eq_true rfl) (by decide) cv_T_drawEvents.2.2.2.2 (c_drawEvents v1 T x n hTb hto hn) ?_
  rintro r v2 ⟨hr, hTd, hfd, h2d⟩
  rw [hr]
  clear hr r
  refine run_ok 5 (c' := (50, [(0, .ref 0), (1, .int x), (2, .int (nI n)), (3, .int (nI 1))], [.int (nI 23), .ref 14, .ref 23], v2)) rfl ?_
  refine x_callV [.ref 14, .int (nI 23)] rfl cv_V_run.1 lk_6_146 cv_V_run.2.1 cv_V_run.2.2.1 rfl cv_V_run.2.2.2.1 rfl rfl (Nat.le_of_ble_eq_true rfl) (by decide) cv_V_run.2.2.2.2 (c_run14 v2 (dec T x n) 23 hTd (tok_dec hto x hn) (by omega)) ?_
  rintro r u ⟨hr, hCu, hfu, h2u⟩
  rw [hr]
  clear hr r
  have h29 := hCu.2.2.2.2.2.1
  refine run_ok 3 (c' := (58, [(0, .ref 0), (1, .int x), (2, .int (nI n)), (3, .int (nI 1))], [.int (nI 1), .ref 23], u)) rfl ?_
  refine x_ifN_ne 65 rfl rfl (by omega) (fun h58 => ?_) (fun hn => absurd hn (by decide))
  refine run_ok 1 (c' := (66, [(0, .ref 0), (1, .int x), (2, .int (nI n)), (3, .int (nI 1))], [.int (nI 1), .ref 23], u)) rfl ?_
  refine x_callV [.int (nI 1)] rfl cv_V_howMany.1 lk_6_161 cv_V_howMany.2.1 cv_V_howMany.2.2.1 rfl cv_V_howMany.2.2.2.1 rfl rfl (Nat.le_of_ble_eq_true rfl) (by decide) cv_V_howMany.2.2.2.2 (c_howMany14 u (dec T x n) (vo (dec T x n) 24) _ (hTd.keep hfu (by decide)) (tok_dec hto x hn) hCu (vk_vo (tok_dec hto x hn) 24 (by omega)).1 1 (by decide)) ?_
  rintro r q ⟨hr, hu⟩
  rw [hr, hu]
  clear hr hu r q
  exact x_ret (r := some (.int (nI (cnt (fun k => decide (vis (vo (dec T x n) 24) k = 1)) (tnb T))))) rfl rfl trivial ⟨rfl, ((hfb.sub (by decide)).tr (hfd.sub (by decide))).tr (hfu.sub (by decide))⟩ rfl


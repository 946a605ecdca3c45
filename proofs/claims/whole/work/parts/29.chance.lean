/-! chances of the class -/
theorem wb_tb (n : Nat) : (lN n).toBitVec = BitVec.ofNat 64 n := rfl
theorem wb_inj {a b : Int64} (h : a.toBitVec = b.toBitVec) : a = b := Int64.toBitVec_inj.mp h
theorem wb_tn {n : Nat} (h : n < 2 ^ 64) : (lN n).toBitVec.toNat = n := by rw [wb_tb, BitVec.toNat_ofNat, Nat.mod_eq_of_lt h]
theorem wb_c : ∀ k, k < 64 → ((nI k).toInt64 &&& 63) = lN k := by decide +kernel
theorem wb_sm : ∀ k, k < 64 → (BitVec.ofNat 64 k).smod 64 = BitVec.ofNat 64 k := by decide +kernel
theorem wb_lt2 {a b : Nat} (h : a < b) : 2 ^ a < 2 ^ b := Nat.pow_lt_pow_right (by decide) h
theorem wb_shl (n : Nat) {k : Nat} (hk : k < 64) : lN n <<< ((nI k).toInt64 &&& 63) = lN (n * 2 ^ k) := by
  rw [wb_c k hk]
  apply wb_inj
  rw [Int64.toBitVec_shiftLeft, wb_tb, wb_tb, wb_tb, wb_sm k hk]
  apply BitVec.eq_of_toNat_eq
  rw [BitVec.shiftLeft_eq', BitVec.toNat_shiftLeft, BitVec.toNat_ofNat, BitVec.toNat_ofNat, BitVec.toNat_ofNat, Nat.mod_eq_of_lt (show k < 2 ^ 64 by omega), Nat.shiftLeft_eq, Nat.mul_mod, Nat.mod_mod, ← Nat.mul_mod]
theorem wb_and {a b : Nat} (ha : a < 2 ^ 64) (hb : b < 2 ^ 64) : lN a &&& lN b = lN (a &&& b) := by
  apply wb_inj
  rw [Int64.toBitVec_and, wb_tb, wb_tb, wb_tb]
  apply BitVec.eq_of_toNat_eq
  rw [BitVec.toNat_and, BitVec.toNat_ofNat, BitVec.toNat_ofNat, BitVec.toNat_ofNat, Nat.mod_eq_of_lt ha, Nat.mod_eq_of_lt hb, Nat.mod_eq_of_lt (Nat.and_lt_two_pow _ hb)]
theorem wb_mask {n k : Nat} (hn : n < 2 ^ 64) (hk : k < 64) : lN n &&& lN (2 ^ k - 1) = lN (n % 2 ^ k) := by
  rw [wb_and hn (by have := wb_lt2 hk; omega), Nat.and_two_pow_sub_one_eq_mod]
theorem wb_a1 {n : Nat} (hn : n < 2 ^ 64) : lN n &&& 1 = lN (n % 2) := wb_mask (k := 1) hn (by decide)
theorem pf_lI {a : Nat} (h : a < 2 ^ 63) : (lN a).toInt = (a : Int) := lg_ofNat_toInt h
theorem pf_shr {a d : Nat} {D : Int64} (hD : (D.toBitVec.smod 64).toNat = d) (h : a < 2 ^ 62) : lN a >>> D = lN (a / 2 ^ d) := by
  have hd : a / 2 ^ d ≤ a := Nat.div_le_self _ _
  apply Int64.toInt_inj.mp
  have e : (lN a >>> D).toInt = (lN a).toInt >>> d := by
    rw [← hD]
    exact BitVec.toInt_sshiftRight ..
  rw [e, Int.shiftRight_eq_div_pow, pf_lI (by omega), pf_lI (by omega)]
  rfl
theorem wb_c2 : ∀ k, k < 64 → (((nI k).toInt64 &&& 63).toBitVec.smod 64).toNat = k := by decide +kernel
theorem shrL {a d : Nat} (h : a < 2 ^ 62) (hd : d < 64) : lN a >>> ((nI d).toInt64 &&& 63) = lN (a / 2 ^ d) := pf_shr (wb_c2 d hd) h
theorem lN_0 {w : Nat} (h : w < 2 ^ 63) : lN w = 0 ↔ w = 0 := by
  have := pk_lEQ (a := w) (b := 0) h (by decide)
  exact this
theorem lg_le0 {w : Nat} (h : w < 2 ^ 63) : lg_cmp (lN w) 0 ≤ 0 ↔ w = 0 := by
  unfold lg_cmp
  by_cases h0 : w = 0
  · rw [h0, if_neg (by decide), if_pos (by decide)]
    exact ⟨fun _ => rfl, fun _ => by decide⟩
  · have h1 : lN w > 0 := (pk_lLT (a := 0) (b := w) (by decide) h).mpr (by omega)
    rw [if_pos h1]
    exact ⟨fun z => absurd z (by decide), fun z => absurd z h0⟩
theorem lg_eq0 {w : Nat} (h : w < 2 ^ 63) : lg_cmp (lN w) 0 = 0 ↔ w = 0 := by
  unfold lg_cmp
  by_cases h0 : w = 0
  · rw [h0, if_neg (by decide), if_pos (by decide)]
    exact ⟨fun _ => rfl, fun _ => rfl⟩
  · have h1 : lN w > 0 := (pk_lLT (a := 0) (b := w) (by decide) h).mpr (by omega)
    rw [if_pos h1]
    exact ⟨fun z => absurd z (by decide), fun z => absurd z h0⟩
set_option maxHeartbeats 1000000 in
theorem c_fillj (S : ST) (x : Int64) : EX me_J_fillj 0 [.ref 46, .long x] S (fun r u => r = none ∧ (∀ j, j < 8 → u.2.1 j = x) ∧ u.1 = S.1 ∧ u.2.2 = S.2.2) := by
  refine EX.of mok_J_fillj (Nat.le_of_ble_eq_true rfl) ?_
  have H : ∀ i, i ≤ 8 → ∀ u : ST, (∀ j, j < i → u.2.1 j = x) → u.1 = S.1 → u.2.2 = S.2.2 → BX me_J_fillj 0 none (fun r u => r = none ∧ (∀ j, j < 8 → u.2.1 j = x) ∧ u.1 = S.1 ∧ u.2.2 = S.2.2) (6, [(0, .ref 46), (1, .long x), (3, .int (nI i)), (4, .int (nI 8))], [], u) := by
    refine loop_up (P := fun i => ∀ u : ST, (∀ j, j < i → u.2.1 j = x) → u.1 = S.1 → u.2.2 = S.2.2 → BX me_J_fillj 0 none (fun r u => r = none ∧ (∀ j, j < 8 → u.2.1 j = x) ∧ u.1 = S.1 ∧ u.2.2 = S.2.2) (6, [(0, .ref 46), (1, .long x), (3, .int (nI i)), (4, .int (nI 8))], [], u)) 8 ?_ ?_
    · intro u h1 hf h2
      refine run_ok 2 (c' := (9, [(0, .ref 46), (1, .long x), (3, .int (nI 8)), (4, .int (nI 8))], [.int (nI 8), .int (nI 8)], u)) rfl ?_
      refine x_icmpN_ge 22 rfl rfl (by omega) (by omega) (fun _ => ?_) (fun hn => absurd (Nat.le_refl _) hn)
      exact x_ret (r := none) rfl rfl trivial ⟨rfl, h1, hf, h2⟩ rfl
    · intro i hi ih u h1 hf h2
      refine run_ok 2 (c' := (9, [(0, .ref 46), (1, .long x), (3, .int (nI i)), (4, .int (nI 8))], [.int (nI 8), .int (nI i)], u)) rfl ?_
      refine x_icmpN_ge 22 rfl rfl (by omega) (by omega) (fun hn => absurd hn (by omega)) (fun _ => ?_)
      refine run_ok 3 (c' := (15, [(0, .ref 46), (1, .long x), (3, .int (nI i)), (4, .int (nI 8))], [.long x, .int (nI i), .ref 46], u)) rfl ?_
      refine x_lsN rfl rfl (by decide) hi ?_
      refine run_ok 1 (c' := (19, [(0, .ref 46), (1, .long x), (3, .int (nI i + nI 1)), (4, .int (nI 8))], [], ptl u i x)) rfl ?_
      rw [nI_add i 1]
      refine run_ok 1 (c' := (6, [(0, .ref 46), (1, .long x), (3, .int (nI (i + 1))), (4, .int (nI 8))], [], ptl u i x)) rfl ?_
      refine ih _ (fun j hj => ?_) hf h2
      show vp_updL u.2.1 i x j = x
      unfold vp_updL
      split
      · rfl
      · exact h1 j (by omega)
  refine run_ok 3 (c' := (3, [(0, .ref 46), (1, .long x), (3, .int (nI 0))], [.ref 46], S)) rfl ?_
  refine x_alen1 rfl rfl ?_
  refine run_ok 1 (c' := (6, [(0, .ref 46), (1, .long x), (3, .int (nI 0)), (4, .int (nI 8))], [], S)) rfl ?_
  exact H 0 (Nat.zero_le _) S (fun j hj => absurd hj (Nat.not_lt_zero _)) rfl rfl
def adw (V : VS) (f : Nat → Nat) (wt i j : Nat) : Nat := if j < i ∧ vis V j = 2 then f j + wt else f j
theorem adw_y {V : VS} {f : Nat → Nat} {wt i : Nat} (h : vis V i = 2) (j : Nat) : adw V f wt (i + 1) j = if j = i then f i + wt else adw V f wt i j := by
  unfold adw
  by_cases e : j = i
  · subst e
    rw [if_pos ⟨by omega, h⟩, if_pos rfl]
  · have : (j < i + 1 ∧ vis V j = 2) ↔ (j < i ∧ vis V j = 2) := by omega
    simp only [this, e, if_false]
theorem adw_n {V : VS} {f : Nat → Nat} {wt i : Nat} (h : ¬ vis V i = 2) (j : Nat) : adw V f wt (i + 1) j = adw V f wt i j := by
  unfold adw
  by_cases e : j = i
  · subst e
    rw [if_neg (fun z => h z.2), if_neg (fun z => h z.2)]
  · have : (j < i + 1 ∧ vis V j = 2) ↔ (j < i ∧ vis V j = 2) := by omega
    simp only [this]
theorem adw_c (V : VS) (f : Nat → Nat) (wt i : Nat) : adw V f wt i i = f i := if_neg (by omega)
/-- of all the ways in which events may fail: the weight of those in which a boat is sunk -/
def chs (T : TD) (c j : Nat) : Nat → Nat
  | 0 => 0
  | m + 1 => chs T c j m + (if vis (vo (wlo T m) 24) j = 2 then wgt (wlo T m) c (tne T) else 0)
theorem wgt_le (T : TD) {c : Nat} (hc : c ≤ 16) : ∀ e, wgt T c e ≤ 16 ^ e := by
  intro e
  induction e with
  | zero => exact Nat.le_refl _
  | succ e ih =>
    show wgt T c e * _ ≤ 16 ^ (e + 1)
    rw [Nat.pow_succ]
    exact Nat.mul_le_mul ih (by split <;> omega)
theorem chs_le (T : TD) {c : Nat} (hc : c ≤ 16) (j : Nat) (hn : tne T ≤ 8) : ∀ m, chs T c j m ≤ m * 4294967296 := by
  intro m
  induction m with
  | zero => exact Nat.zero_le _
  | succ m ih =>
    have h1 := wgt_le (wlo T m) hc (tne T)
    have h2 : 16 ^ tne T ≤ 16 ^ 8 := Nat.pow_le_pow_right (by decide) hn
    have h3 : (16 : Nat) ^ 8 = 4294967296 := by decide
    show chs T c j m + _ ≤ (m + 1) * 4294967296
    rw [Nat.add_mul, Nat.one_mul]
    refine Nat.add_le_add ih ?_
    split
    · exact Nat.le_trans h1 (Nat.le_trans h2 (Nat.le_of_eq h3))
    · exact Nat.zero_le _
def hlv (s : Nat) : Nat → Nat → Nat
  | 0, h => h
  | n + 1, h => if s / 2 ^ h % 2 = 0 then hlv s n (h + 1) else h
theorem hlv_le (s : Nat) : ∀ n h, h ≤ hlv s n h ∧ hlv s n h ≤ h + n := by
  intro n
  induction n with
  | zero => intro h; exact ⟨Nat.le_refl _, Nat.le_refl _⟩
  | succ n ih =>
    intro h
    unfold hlv
    split
    · have := ih (h + 1); omega
    · omega
def sl (nb : Nat) (f : Nat → Nat) (u : ST) : Prop := ∀ j, j < nb → u.2.1 j = lN (f j)
set_option maxHeartbeats 2000000 in
theorem c_addWeight (S : ST) (T : TD) (V : VS) (f : Nat → Nat) (wt : Nat) (n8 : tnb T ≤ 8) (t9 : S.1 5 6 = nI (tnb T)) (h25 : rh S 25 8 (vis V)) (hv3 : ∀ k, k < 8 → vis V k ≤ 3) (hf : sl (tnb T) f S) : EX me_N_addWeight 0 [.ref 0, .long (lN wt)] S (fun r u => r = none ∧ sl (tnb T) (adw V f wt (tnb T)) u ∧ u.1 = S.1 ∧ u.2.2 = S.2.2) := by
  refine EX.of mok_N_addWeight (Nat.le_of_ble_eq_true rfl) ?_
  have H : ∀ i, i ≤ tnb T → ∀ v : ST, sl (tnb T) (adw V f wt i) v → v.1 = S.1 → v.2.2 = S.2.2 → BX me_N_addWeight 0 none (fun r u => r = none ∧ sl (tnb T) (adw V f wt (tnb T)) u ∧ u.1 = S.1 ∧ u.2.2 = S.2.2) (2, [(0, .ref 0), (1, .long (lN wt)), (3, .int (nI i))], [], v) := by
    refine loop_up (P := fun i => ∀ v : ST, sl (tnb T) (adw V f wt i) v → v.1 = S.1 → v.2.2 = S.2.2 → BX me_N_addWeight 0 none (fun r u => r = none ∧ sl (tnb T) (adw V f wt (tnb T)) u ∧ u.1 = S.1 ∧ u.2.2 = S.2.2) (2, [(0, .ref 0), (1, .long (lN wt)), (3, .int (nI i))], [], v)) (tnb T) ?_ ?_
    · intro v hs h1 h2
      have t9v : v.1 5 6 = nI (tnb T) := by rw [h1]; exact t9
      have h25v : rh v 25 8 (vis V) := fun j hj => by rw [h1]; exact h25 j hj
      refine run_ok 4 (c' := (10, [(0, .ref 0), (1, .long (lN wt)), (3, .int (nI (tnb T)))], [.int (v.1 5 6), .int (nI (tnb T))], v)) rfl ?_
      refine x_top (v' := nI (tnb T)) t9v ?_
      refine x_icmpN_ge 42 rfl rfl (by omega) (by omega) (fun h10 => ?_) (fun hn => absurd (Nat.le_refl _) hn)
      exact x_ret (r := none) rfl rfl trivial ⟨rfl, hs, h1, h2⟩ rfl
    · intro i hi ih v hs h1 h2
      have t9v : v.1 5 6 = nI (tnb T) := by rw [h1]; exact t9
      have h25v : rh v 25 8 (vis V) := fun j hj => by rw [h1]; exact h25 j hj
      have q1 := hv3 i (by omega)
      refine run_ok 4 (c' := (10, [(0, .ref 0), (1, .long (lN wt)), (3, .int (nI i))], [.int (v.1 5 6), .int (nI i)], v)) rfl ?_
      refine x_top (v' := nI (tnb T)) t9v ?_
      refine x_icmpN_ge 42 rfl rfl (by omega) (by omega) (fun hn => absurd hn (show ¬ tnb T ≤ i by omega)) (fun h10 => ?_)
      refine run_ok 4 (c' := (21, [(0, .ref 0), (1, .long (lN wt)), (3, .int (nI i))], [.int (nI i), .ref 25], v)) rfl ?_
      refine x_iaN (nI (vis V i)) rfl rfl (by decide) (by omega) (h25v i (by omega)) ?_
      refine run_ok 1 (c' := (23, [(0, .ref 0), (1, .long (lN wt)), (3, .int (nI i))], [.int (nI 2), .int (nI (vis V i))], v)) rfl ?_
      refine x_icmpN_ne 36 rfl rfl (by omega) (by omega) (fun h23 => ?_) (fun h23 => ?_)
      · refine run_ok 1 (c' := (39, [(0, .ref 0), (1, .long (lN wt)), (3, .int (nI i + nI 1))], [], v)) rfl ?_
        rw [nI_add i 1]
        refine run_ok 1 (c' := (2, [(0, .ref 0), (1, .long (lN wt)), (3, .int (nI (i + 1)))], [], v)) rfl ?_
        exact ih v (fun j hj => by rw [adw_n h23]; exact hs j hj) h1 h2
      · refine run_ok 4 (c' := (32, [(0, .ref 0), (1, .long (lN wt)), (3, .int (nI i))], [.int (nI i), .ref 46, .int (nI i), .ref 46], v)) rfl ?_
        refine x_laN (v.2.1 i) rfl rfl (by decide) (by omega) rfl ?_
        refine x_topl (v' := lN (f i)) (by rw [hs i hi, adw_c]) ?_
        refine run_ok 2 (c' := (35, [(0, .ref 0), (1, .long (lN wt)), (3, .int (nI i))], [.long ((lN (f i)) + (lN wt)), .int (nI i), .ref 46], v)) rfl ?_
        refine x_topl (v' := lN (f i + wt)) (lN_add _ _) ?_
        refine x_lsN rfl rfl (by decide) (by omega) ?_
        refine run_ok 1 (c' := (39, [(0, .ref 0), (1, .long (lN wt)), (3, .int (nI i + nI 1))], [], (ptl v i (lN (f i + wt))))) rfl ?_
        rw [nI_add i 1]
        refine run_ok 1 (c' := (2, [(0, .ref 0), (1, .long (lN wt)), (3, .int (nI (i + 1)))], [], (ptl v i (lN (f i + wt))))) rfl ?_
        refine ih _ (fun j hj => ?_) h1 h2
        show vp_updL v.2.1 i (lN (f i + wt)) j = lN (adw V f wt (i + 1) j)
        rw [adw_y h23]
        unfold vp_updL
        split
        · rfl
        · exact hs j hj
  refine run_ok 2 (c' := (2, [(0, .ref 0), (1, .long (lN wt)), (3, .int (nI 0))], [], S)) rfl ?_
  exact H 0 (Nat.zero_le _) S (fun j hj => by rw [show adw V f wt 0 j = f j from if_neg (by omega)]; exact hf j hj) rfl rfl

set_option maxHeartbeats 2000000 in
theorem c_weighSunk (S : ST) (T : TD) (hT : TR 5 T S) (hto : tok T) (hne : tne T ≤ 8) (c : Nat) (hc : c ≤ 16) : EX me_N_weighSunk 5 [.ref 0, .int (nI c)] S (fun r u => r = none ∧ sl (tnb T) (fun j => chs T c j (2 ^ tne T)) u ∧ fr CQ S u) := by
  refine EX.of mok_N_weighSunk (Nat.le_of_ble_eq_true rfl) ?_
  obtain ⟨n8, n9, hbt, het, hht, hlo⟩ := id hto
  obtain ⟨t1, t2, t3, t4, t5, t6, t7, t8, t9, t10, t11⟩ := id hT
  have p8 : 2 ^ tne T ≤ 2 ^ 8 := Nat.pow_le_pow_right (by decide) hne
  have H : ∀ m, m ≤ 2 ^ tne T → ∀ (v : ST) (l : Nat), TR 14 (wlo T l) v → sl (tnb T) (fun j => chs T c j m) v → fr CQ S v → BX me_N_weighSunk 5 none (fun r u => r = none ∧ sl (tnb T) (fun j => chs T c j (2 ^ tne T)) u ∧ fr CQ S u) (31, [(0, .ref 0), (1, .int (nI c)), (2, .int (nI (2 ^ tne T))), (3, .int (nI m))], [], v) := by
    refine loop_up (P := fun m => ∀ (v : ST) (l : Nat), TR 14 (wlo T l) v → sl (tnb T) (fun j => chs T c j m) v → fr CQ S v → BX me_N_weighSunk 5 none (fun r u => r = none ∧ sl (tnb T) (fun j => chs T c j (2 ^ tne T)) u ∧ fr CQ S u) (31, [(0, .ref 0), (1, .int (nI c)), (2, .int (nI (2 ^ tne T))), (3, .int (nI m))], [], v)) (2 ^ tne T) ?_ ?_
    · intro v l hTl hs hfv
      refine run_ok 2 (c' := (33, [(0, .ref 0), (1, .int (nI c)), (2, .int (nI (2 ^ tne T))), (3, .int (nI (2 ^ tne T)))], [.int (nI (2 ^ tne T)), .int (nI (2 ^ tne T))], v)) rfl ?_
      refine x_icmpN_ge 86 rfl rfl (by omega) (by omega) (fun h33 => ?_) (fun hn => absurd (Nat.le_refl _) hn)
      exact x_ret (r := none) rfl rfl trivial ⟨rfl, hs, hfv⟩ rfl
    · intro m hm ih v l hTl hs hfv
      have q1 := wgt_le (wlo T m) hc (tne T)
      have q2 : 16 ^ tne T ≤ 16 ^ 8 := Nat.pow_le_pow_right (by decide) hne
      refine run_ok 2 (c' := (33, [(0, .ref 0), (1, .int (nI c)), (2, .int (nI (2 ^ tne T))), (3, .int (nI m))], [.int (nI (2 ^ tne T)), .int (nI m)], v)) rfl ?_
      refine x_icmpN_ge 86 rfl rfl (by omega) (by omega) (fun hn => absurd hn (show ¬ 2 ^ tne T ≤ m by omega)) (fun h33 => ?_)
      refine run_ok 4 (c' := (44, [(0, .ref 0), (1, .int (nI c)), (2, .int (nI (2 ^ tne T))), (3, .int (nI m))], [], (pt v 14 11 (nI m)))) rfl ?_
      have hTm : TR 14 (wlo T m) (pt v 14 11 (nI m)) := ⟨hTl.1, hTl.2.1, hTl.2.2.1, hTl.2.2.2.1, hTl.2.2.2.2.1, hTl.2.2.2.2.2.1, hTl.2.2.2.2.2.2.1, hTl.2.2.2.2.2.2.2.1, hTl.2.2.2.2.2.2.2.2.1, hTl.2.2.2.2.2.2.2.2.2.1, rfl⟩
      refine run_ok 3 (c' := (49, [(0, .ref 0), (1, .int (nI c)), (2, .int (nI (2 ^ tne T))), (3, .int (nI m))], [.int (nI c), .ref 14], (pt v 14 11 (nI m)))) rfl ?_
      refine x_callV [.int (nI c)] rfl cv_T_weight.1 lk_6_384 cv_T_weight.2.1 cv_T_weight.2.2.1 rfl cv_T_weight.2.2.2.1 rfl rfl (Nat.le_of_ble_eq_true rfl) (by decide) cv_T_weight.2.2.2.2 (c_weight (pt v 14 11 (nI m)) (wlo T m) c hTm (tok_wlo hto (by omega)) hc) ?_
      rintro r x ⟨hr, hu⟩
      rw [hr, hu]
      clear hr hu r x
      refine run_ok 4 (c' := (58, [(0, .ref 0), (1, .int (nI c)), (2, .int (nI (2 ^ tne T))), (3, .int (nI m)), (4, .long (lN (wgt (wlo T m) c (tne T))))], [.int (lg_cmp (lN (wgt (wlo T m) c (tne T))) 0)], (pt v 14 11 (nI m)))) rfl ?_
      refine x_if_le 80 rfl rfl (fun h58 => ?_) (fun h58 => ?_)
      · refine run_ok 1 (c' := (83, [(0, .ref 0), (1, .int (nI c)), (2, .int (nI (2 ^ tne T))), (3, .int (nI m + nI 1)), (4, .long (lN (wgt (wlo T m) c (tne T))))], [], (pt v 14 11 (nI m)))) rfl ?_
        rw [nI_add m 1]
        refine run_ok 1 (c' := (31, [(0, .ref 0), (1, .int (nI c)), (2, .int (nI (2 ^ tne T))), (3, .int (nI (m + 1))), (4, .long (lN (wgt (wlo T m) c (tne T))))], [], (pt v 14 11 (nI m)))) rfl ?_
        refine x_less [0, 1, 2, 3] rfl ?_
        refine ih _ m hTm (fun j hj => ?_) (hfv.tr (fr.rf.pt (by decide)))
        have hz := (lg_le0 (by omega)).mp h58
        show (pt v 14 11 (nI m)).2.1 j = lN (chs T c j (m + 1))
        rw [show chs T c j (m + 1) = chs T c j m by show chs T c j m + (if vis (vo (wlo T m) 24) j = 2 then wgt (wlo T m) c (tne T) else 0) = _; rw [hz, ite_self]; rfl]
        exact hs j hj
      · refine run_ok 5 (c' := (71, [(0, .ref 0), (1, .int (nI c)), (2, .int (nI (2 ^ tne T))), (3, .int (nI m)), (4, .long (lN (wgt (wlo T m) c (tne T))))], [.int (nI 23), .ref 14, .ref 23], (pt v 14 11 (nI m)))) rfl ?_
        refine x_callV [.ref 14, .int (nI 23)] rfl cv_V_run.1 lk_6_146 cv_V_run.2.1 cv_V_run.2.2.1 rfl cv_V_run.2.2.2.1 rfl rfl (Nat.le_of_ble_eq_true rfl) (by decide) cv_V_run.2.2.2.2 (c_run14 (pt v 14 11 (nI m)) (wlo T m) 23 hTm (tok_wlo hto (by omega)) (by omega)) ?_
        rintro r u ⟨hr, hCu, hfu, h2u⟩
        rw [hr]
        clear hr r
        refine run_ok 2 (c' := (77, [(0, .ref 0), (1, .int (nI c)), (2, .int (nI (2 ^ tne T))), (3, .int (nI m)), (4, .long (lN (wgt (wlo T m) c (tne T))))], [.long (lN (wgt (wlo T m) c (tne T))), .ref 0], u)) rfl ?_
        refine x_callV [.long (lN (wgt (wlo T m) c (tne T)))] rfl cv_N_addWeight.1 lk_6_387 cv_N_addWeight.2.1 cv_N_addWeight.2.2.1 rfl cv_N_addWeight.2.2.2.1 rfl rfl (Nat.le_of_ble_eq_true rfl) (by decide) cv_N_addWeight.2.2.2.2 (c_addWeight u T (vo (wlo T m) 24) (fun j => chs T c j m) (wgt (wlo T m) c (tne T)) n8 (by rw [hfu 5 (by decide)]; exact (by rw [show (pt v 14 11 (nI m)).1 5 = v.1 5 from rfl, hfv 5 (by decide)]; exact t9)) hCu.2.1 (fun k hk => ((vk_vo (tok_wlo hto (by omega)) 24 (by omega)).1.2.1 k hk).1) (fun j hj => by rw [h2u]; exact hs j hj)) ?_
        rintro r z ⟨hr, hsz, h1z, h2z⟩
        rw [hr]
        clear hr r
        have hfz : fr [] u z := fun k _ => by rw [h1z]
        refine run_ok 1 (c' := (83, [(0, .ref 0), (1, .int (nI c)), (2, .int (nI (2 ^ tne T))), (3, .int (nI m + nI 1)), (4, .long (lN (wgt (wlo T m) c (tne T))))], [], z)) rfl ?_
        rw [nI_add m 1]
        refine run_ok 1 (c' := (31, [(0, .ref 0), (1, .int (nI c)), (2, .int (nI (2 ^ tne T))), (3, .int (nI (m + 1))), (4, .long (lN (wgt (wlo T m) c (tne T))))], [], z)) rfl ?_
        refine x_less [0, 1, 2, 3] rfl ?_
        refine ih z m ((hTm.keep hfu (by decide)).keep hfz (by decide)) (fun j hj => ?_) (hfv.tr (((fr.rf.pt (by decide)).tr (hfu.sub (by decide))).tr (hfz.sub (by decide))))
        rw [hsz j hj]
        congr 1
        show (if j < tnb T ∧ vis (vo (wlo T m) 24) j = 2 then _ else _) = chs T c j m + (if vis (vo (wlo T m) 24) j = 2 then _ else 0)
        by_cases hv : vis (vo (wlo T m) 24) j = 2
        · rw [if_pos ⟨hj, hv⟩, if_pos hv]
        · rw [if_neg (fun y => hv y.2), if_neg hv]; rfl
  refine run_ok 3 (c' := (5, [(0, .ref 0), (1, .int (nI c))], [.long 0, .ref 46], S)) rfl ?_
  refine x_callS [.ref 46, .long 0] rfl cs_J_fillj.1 lk_6_378 cs_J_fillj.2.1 rfl rfl (Nat.le_of_ble_eq_true rfl) (by decide) cs_J_fillj.2.2 (c_fillj S 0) ?_
  rintro r u0 ⟨hr, ha0, h10, h20⟩
  rw [hr]
  clear hr r
  have hf0 : fr [] S u0 := fun k _ => by rw [h10]
  have t10u : u0.1 5 10 = nI (tne T) := by rw [h10]; exact t10
  refine run_ok 4 (c' := (16, [(0, .ref 0), (1, .int (nI c))], [.ref 5, .ref 14], u0)) rfl ?_
  refine x_callV [.ref 5] rfl cv_T_become.1 lk_6_220 cv_T_become.2.1 cv_T_become.2.2.1 rfl cv_T_become.2.2.2.1 rfl rfl (Nat.le_of_ble_eq_true rfl) (by decide) cv_T_become.2.2.2.2 (c_become u0 T (hT.keep hf0 (by decide)) hto hne) ?_
  rintro r v1 ⟨hr, hTb, hfb, h2b⟩
  rw [hr]
  clear hr r
  have t10v : v1.1 5 10 = nI (tne T) := by rw [hfb 5 (by decide)]; exact t10u
  refine run_ok 4 (c' := (27, [(0, .ref 0), (1, .int (nI c))], [.int (v1.1 5 10), .int (nI 1)], v1)) rfl ?_
  refine x_top (v' := nI (tne T)) t10v ?_
  refine run_ok 1 (c' := (28, [(0, .ref 0), (1, .int (nI c))], [.int ((nI 1) <<< ((nI (tne T)) &&& 31))], v1)) rfl ?_
  refine x_top (v' := nI (2 ^ tne T)) (sh1 (by omega)) ?_
  refine run_ok 3 (c' := (31, [(0, .ref 0), (1, .int (nI c)), (2, .int (nI (2 ^ tne T))), (3, .int (nI 0))], [], v1)) rfl ?_
  exact H 0 (Nat.zero_le _) v1 (tlo T) hTb (fun j hj => by rw [h2b]; exact ha0 j (by omega)) ((hf0.sub (by decide)).tr (hfb.sub (by decide)))

set_option maxHeartbeats 2000000 in
theorem c_halve (S : ST) (T : TD) (t10 : S.1 5 10 = nI (tne T)) (hne : tne T ≤ 8) (n8 : tnb T ≤ 8) (f : Nat → Nat) (k : Nat) (hk : k < tnb T) (hf : sl (tnb T) f S) (hfk : f k < 2 ^ 50) : EX me_N_sharedHalvings 0 [.ref 0, .int (nI k)] S (fun r u => r = some (.int (nI (hlv (f k) (4 * tne T) 0))) ∧ u = S) := by
  refine EX.of mok_N_sharedHalvings (Nat.le_of_ble_eq_true rfl) ?_
  have H : ∀ h, h ≤ 4 * tne T → hlv (f k) (4 * tne T) 0 = hlv (f k) (4 * tne T - h) h → BX me_N_sharedHalvings 0 none (fun r u => r = some (.int (nI (hlv (f k) (4 * tne T) 0))) ∧ u = S) (12, [(0, .ref 0), (1, .int (nI k)), (2, .int (nI (4 * tne T))), (3, .int (nI h))], [], S) := by
    refine loop_up (P := fun h => hlv (f k) (4 * tne T) 0 = hlv (f k) (4 * tne T - h) h → BX me_N_sharedHalvings 0 none (fun r u => r = some (.int (nI (hlv (f k) (4 * tne T) 0))) ∧ u = S) (12, [(0, .ref 0), (1, .int (nI k)), (2, .int (nI (4 * tne T))), (3, .int (nI h))], [], S)) (4 * tne T) ?_ ?_
    · intro hs
      refine run_ok 2 (c' := (14, [(0, .ref 0), (1, .int (nI k)), (2, .int (nI (4 * tne T))), (3, .int (nI (4 * tne T)))], [.int (nI (4 * tne T)), .int (nI (4 * tne T))], S)) rfl ?_
      refine x_icmpN_ge 38 rfl rfl (by omega) (by omega) (fun h14 => ?_) (fun hn => absurd (Nat.le_refl _) hn)
      refine run_ok 1 (c' := (39, [(0, .ref 0), (1, .int (nI k)), (2, .int (nI (4 * tne T))), (3, .int (nI (4 * tne T)))], [.int (nI (4 * tne T))], S)) rfl ?_
      exact x_ret (r := some (.int (nI (4 * tne T)))) rfl rfl trivial ⟨by rw [hs, Nat.sub_self]; rfl, rfl⟩ rfl
    · intro h hh ih hs
      refine run_ok 2 (c' := (14, [(0, .ref 0), (1, .int (nI k)), (2, .int (nI (4 * tne T))), (3, .int (nI h))], [.int (nI (4 * tne T)), .int (nI h)], S)) rfl ?_
      refine x_icmpN_ge 38 rfl rfl (by omega) (by omega) (fun hn => absurd hn (show ¬ 4 * tne T ≤ h by omega)) (fun h14 => ?_)
      refine run_ok 3 (c' := (22, [(0, .ref 0), (1, .int (nI k)), (2, .int (nI (4 * tne T))), (3, .int (nI h))], [.int (nI k), .ref 46], S)) rfl ?_
      refine x_laN (S.2.1 k) rfl rfl (by decide) (by omega) rfl ?_
      refine x_topl (v' := lN (f k)) (hf k hk) ?_
      refine run_ok 2 (c' := (25, [(0, .ref 0), (1, .int (nI k)), (2, .int (nI (4 * tne T))), (3, .int (nI h))], [.long ((lN (f k)) >>> ((nI h).toInt64 &&& 63))], S)) rfl ?_
      refine x_topl (v' := lN (f k / 2 ^ h)) (shrL (by omega) (by omega)) ?_
      refine run_ok 2 (c' := (27, [(0, .ref 0), (1, .int (nI k)), (2, .int (nI (4 * tne T))), (3, .int (nI h))], [.long ((lN (f k / 2 ^ h)) &&& 1)], S)) rfl ?_
      refine x_topl (v' := lN (f k / 2 ^ h % 2)) (wb_a1 (by have := Nat.div_le_self (f k) (2 ^ h); omega)) ?_
      refine run_ok 2 (c' := (29, [(0, .ref 0), (1, .int (nI k)), (2, .int (nI (4 * tne T))), (3, .int (nI h))], [.int (lg_cmp (lN (f k / 2 ^ h % 2)) 0)], S)) rfl ?_
      refine x_if_ne 38 rfl rfl (fun h29 => ?_) (fun h29 => ?_)
      · refine run_ok 1 (c' := (39, [(0, .ref 0), (1, .int (nI k)), (2, .int (nI (4 * tne T))), (3, .int (nI h))], [.int (nI h)], S)) rfl ?_
        exact x_ret (r := some (.int (nI h))) rfl rfl trivial ⟨by rw [hs, show 4 * tne T - h = (4 * tne T - (h + 1)) + 1 by omega, show hlv (f k) (4 * tne T - (h + 1) + 1) h = h from if_neg (fun z => h29 ((lg_eq0 (by omega)).mpr z))], rfl⟩ rfl
      · refine run_ok 1 (c' := (35, [(0, .ref 0), (1, .int (nI k)), (2, .int (nI (4 * tne T))), (3, .int (nI h + nI 1))], [], S)) rfl ?_
        rw [nI_add h 1]
        refine run_ok 1 (c' := (12, [(0, .ref 0), (1, .int (nI k)), (2, .int (nI (4 * tne T))), (3, .int (nI (h + 1)))], [], S)) rfl ?_
        exact ih (by rw [hs, show 4 * tne T - h = (4 * tne T - (h + 1)) + 1 by omega]; exact if_pos ((lg_eq0 (by omega)).mp h29))
  refine run_ok 4 (c' := (8, [(0, .ref 0), (1, .int (nI k))], [.int (S.1 5 10), .int (nI 4)], S)) rfl ?_
  refine x_top (v' := nI (tne T)) t10 ?_
  refine run_ok 1 (c' := (9, [(0, .ref 0), (1, .int (nI k))], [.int ((nI 4) * (nI (tne T)))], S)) rfl ?_
  refine x_top (v' := nI (4 * (tne T))) (pk_mul _ _) ?_
  refine run_ok 3 (c' := (12, [(0, .ref 0), (1, .int (nI k)), (2, .int (nI (4 * (tne T)))), (3, .int (nI 0))], [], S)) rfl ?_
  exact H 0 (Nat.zero_le _) rfl

set_option maxHeartbeats 2000000 in
theorem c_above (S : ST) (T : TD) (t10 : S.1 5 10 = nI (tne T)) (hne : tne T ≤ 8) (n8 : tnb T ≤ 8) (f : Nat → Nat) (k : Nat) (hk : k < tnb T) (hf : sl (tnb T) f S) (hfk : f k < 2 ^ 50) : EX me_N_chanceAbove 1 [.ref 0, .int (nI k)] S (fun r u => r = some (.long (lN (f k / 2 ^ hlv (f k) (4 * tne T) 0))) ∧ u = S) := by
  refine EX.of mok_N_chanceAbove (Nat.le_of_ble_eq_true rfl) ?_
  have q := hlv_le (f k) (4 * tne T) 0
  refine run_ok 3 (c' := (5, [(0, .ref 0), (1, .int (nI k))], [.int (nI k), .ref 46], S)) rfl ?_
  refine x_laN (S.2.1 k) rfl rfl (by decide) (by omega) rfl ?_
  refine x_topl (v' := lN (f k)) (hf k hk) ?_
  refine run_ok 2 (c' := (8, [(0, .ref 0), (1, .int (nI k))], [.int (nI k), .ref 0, .long (lN (f k))], S)) rfl ?_
  refine x_callV [.int (nI k)] rfl cv_N_sharedHalvings.1 lk_6_391 cv_N_sharedHalvings.2.1 cv_N_sharedHalvings.2.2.1 rfl cv_N_sharedHalvings.2.2.2.1 rfl rfl (Nat.le_of_ble_eq_true rfl) (by decide) cv_N_sharedHalvings.2.2.2.2 (c_halve S T t10 hne n8 f k hk hf hfk) ?_
  rintro r x ⟨hr, hu⟩
  rw [hr, hu]
  clear hr hu r x
  refine run_ok 1 (c' := (12, [(0, .ref 0), (1, .int (nI k))], [.long ((lN (f k)) >>> ((nI (hlv (f k) (4 * tne T) 0)).toInt64 &&& 63))], S)) rfl ?_
  refine x_topl (v' := lN (f k / 2 ^ hlv (f k) (4 * tne T) 0)) (shrL (by omega) (by omega)) ?_
  exact x_ret (r := some (.long (lN (f k / 2 ^ hlv (f k) (4 * tne T) 0)))) rfl rfl trivial ⟨rfl, rfl⟩ rfl

set_option maxHeartbeats 2000000 in
theorem c_below (S : ST) (T : TD) (t10 : S.1 5 10 = nI (tne T)) (hne : tne T ≤ 8) (n8 : tnb T ≤ 8) (f : Nat → Nat) (k : Nat) (hk : k < tnb T) (hf : sl (tnb T) f S) (hfk : f k < 2 ^ 50) : EX me_N_chanceBelow 1 [.ref 0, .int (nI k)] S (fun r u => r = some (.long (lN (2 ^ (4 * tne T - hlv (f k) (4 * tne T) 0)))) ∧ u = S) := by
  refine EX.of mok_N_chanceBelow (Nat.le_of_ble_eq_true rfl) ?_
  have q := hlv_le (f k) (4 * tne T) 0
  refine run_ok 5 (c' := (9, [(0, .ref 0), (1, .int (nI k))], [.int (S.1 5 10), .int (nI 4), .long 1], S)) rfl ?_
  refine x_top (v' := nI (tne T)) t10 ?_
  refine run_ok 1 (c' := (10, [(0, .ref 0), (1, .int (nI k))], [.int ((nI 4) * (nI (tne T))), .long 1], S)) rfl ?_
  refine x_top (v' := nI (4 * (tne T))) (pk_mul _ _) ?_
  refine run_ok 2 (c' := (12, [(0, .ref 0), (1, .int (nI k))], [.int (nI k), .ref 0, .int (nI (4 * (tne T))), .long 1], S)) rfl ?_
  refine x_callV [.int (nI k)] rfl cv_N_sharedHalvings.1 lk_6_391 cv_N_sharedHalvings.2.1 cv_N_sharedHalvings.2.2.1 rfl cv_N_sharedHalvings.2.2.2.1 rfl rfl (Nat.le_of_ble_eq_true rfl) (by decide) cv_N_sharedHalvings.2.2.2.2 (c_halve S T t10 hne n8 f k hk hf hfk) ?_
  rintro r x ⟨hr, hu⟩
  rw [hr, hu]
  clear hr hu r x
  refine run_ok 1 (c' := (16, [(0, .ref 0), (1, .int (nI k))], [.int ((nI (4 * (tne T))) - (nI (hlv (f k) (4 * tne T) 0))), .long 1], S)) rfl ?_
  refine x_top (v' := nI (4 * tne T - hlv (f k) (4 * tne T) 0)) (pk_sub (by omega)) ?_
  refine run_ok 1 (c' := (17, [(0, .ref 0), (1, .int (nI k))], [.long (1 <<< ((nI (4 * tne T - hlv (f k) (4 * tne T) 0)).toInt64 &&& 63))], S)) rfl ?_
  refine x_topl (v' := lN (1 * 2 ^ (4 * tne T - hlv (f k) (4 * tne T) 0))) (wb_shl 1 (by omega)) ?_
  exact x_ret (r := some (.long (lN (1 * 2 ^ (4 * tne T - hlv (f k) (4 * tne T) 0))))) rfl rfl trivial ⟨by rw [Nat.one_mul], rfl⟩ rfl

set_option maxHeartbeats 2000000 in
theorem c_chance_bad (S : ST) (T : TD) (t9 : S.1 5 6 = nI (tnb T)) (x y z : Int32) (hbad : ¬ ((0 ≤ x ∧ x < nI 17) ∧ (0 ≤ y ∧ y < nI (tnb T)) ∧ (0 ≤ z ∧ z < nI 2))) : EX me_N_chance 6 [.ref 0, .int x, .int y, .int z] S (fun r u => r = some (.long (-9223372036854775806)) ∧ u = S) := by
  refine EX.of mok_N_chance (Nat.le_of_ble_eq_true rfl) ?_
  refine run_ok 2 (c' := (3, [(0, .ref 0), (1, .int x), (2, .int y), (3, .int z)], [.int (nI 17), .int x], S)) rfl ?_
  refine x_callS [.int x, .int (nI 17)] rfl cs_N_isBelow.1 lk_6_73 cs_N_isBelow.2.1 rfl rfl (Nat.le_of_ble_eq_true rfl) (by decide) cs_N_isBelow.2.2 (c_isBelow S (x) (nI 17)) ?_
  rintro r u ⟨hr, hu⟩
  rw [hr, hu]
  clear hr hu r u
  refine x_ifB_eq 25 rfl rfl (fun h6 => ?_) (fun h6 => ?_)
  · refine run_ok 1 (c' := (28, [(0, .ref 0), (1, .int x), (2, .int y), (3, .int z)], [.long (-9223372036854775806)], S)) rfl ?_
    exact x_ret (r := some (.long (-9223372036854775806))) rfl rfl trivial ⟨rfl, rfl⟩ rfl
  · refine run_ok 2 (c' := (11, [(0, .ref 0), (1, .int x), (2, .int y), (3, .int z)], [.int y, .ref 0], S)) rfl ?_
    refine x_callV [.int y] rfl cv_N_isBoat.1 lk_6_107 cv_N_isBoat.2.1 cv_N_isBoat.2.2.1 rfl cv_N_isBoat.2.2.2.1 rfl rfl (Nat.le_of_ble_eq_true rfl) (by decide) cv_N_isBoat.2.2.2.2 (c_isBoat S (y) (tnb T) t9) ?_
    rintro r u ⟨hr, hu⟩
    rw [hr, hu]
    clear hr hu r u
    refine x_ifB_eq 25 rfl rfl (fun h14 => ?_) (fun h14 => ?_)
    · refine run_ok 1 (c' := (28, [(0, .ref 0), (1, .int x), (2, .int y), (3, .int z)], [.long (-9223372036854775806)], S)) rfl ?_
      exact x_ret (r := some (.long (-9223372036854775806))) rfl rfl trivial ⟨rfl, rfl⟩ rfl
    · refine run_ok 2 (c' := (19, [(0, .ref 0), (1, .int x), (2, .int y), (3, .int z)], [.int (nI 2), .int z], S)) rfl ?_
      refine x_callS [.int z, .int (nI 2)] rfl cs_N_isBelow.1 lk_6_73 cs_N_isBelow.2.1 rfl rfl (Nat.le_of_ble_eq_true rfl) (by decide) cs_N_isBelow.2.2 (c_isBelow S (z) (nI 2)) ?_
      rintro r u ⟨hr, hu⟩
      rw [hr, hu]
      clear hr hu r u
      refine x_ifB_ne 29 rfl rfl (fun h22 => ?_) (fun h22 => ?_)
      · exact absurd ⟨h6, h14, h22⟩ hbad
      · refine run_ok 1 (c' := (28, [(0, .ref 0), (1, .int x), (2, .int y), (3, .int z)], [.long (-9223372036854775806)], S)) rfl ?_
        exact x_ret (r := some (.long (-9223372036854775806))) rfl rfl trivial ⟨rfl, rfl⟩ rfl

set_option maxHeartbeats 2000000 in
theorem c_chance_ok0 (S : ST) (T : TD) (hT : TR 5 T S) (hto : tok T) (hne : tne T ≤ 8) (c k : Nat) (hc : c ≤ 16) (hk : k < tnb T) : EX me_N_chance 6 [.ref 0, .int (nI c), .int (nI k), .int (nI 0)] S (fun r u => r = some (.long (lN (chs T c k (2 ^ tne T) / 2 ^ hlv (chs T c k (2 ^ tne T)) (4 * tne T) 0))) ∧ fr CQ S u) := by
  refine EX.of mok_N_chance (Nat.le_of_ble_eq_true rfl) ?_
  obtain ⟨n8, n9, hbt, het, hht, hlo⟩ := id hto
  obtain ⟨t1, t2, t3, t4, t5, t6, t7, t8, t9, t10, t11⟩ := id hT
  have qc := chs_le T hc k hne (2 ^ tne T)
  have p8 : 2 ^ tne T ≤ 2 ^ 8 := Nat.pow_le_pow_right (by decide) hne
  refine run_ok 2 (c' := (3, [(0, .ref 0), (1, .int (nI c)), (2, .int (nI k)), (3, .int (nI 0))], [.int (nI 17), .int (nI c)], S)) rfl ?_
  refine x_callS [.int (nI c), .int (nI 17)] rfl cs_N_isBelow.1 lk_6_73 cs_N_isBelow.2.1 rfl rfl (Nat.le_of_ble_eq_true rfl) (by decide) cs_N_isBelow.2.2 (c_isBelow S (nI c) (nI 17)) ?_
  rintro r u ⟨hr, hu⟩
  rw [hr, hu]
  clear hr hu r u
  refine x_ifB_eq 25 rfl rfl (fun hn => absurd hn (fun z => z (inr_t (by omega) (by decide)))) (fun h6 => ?_)
  refine run_ok 2 (c' := (11, [(0, .ref 0), (1, .int (nI c)), (2, .int (nI k)), (3, .int (nI 0))], [.int (nI k), .ref 0], S)) rfl ?_
  refine x_callV [.int (nI k)] rfl cv_N_isBoat.1 lk_6_107 cv_N_isBoat.2.1 cv_N_isBoat.2.2.1 rfl cv_N_isBoat.2.2.2.1 rfl rfl (Nat.le_of_ble_eq_true rfl) (by decide) cv_N_isBoat.2.2.2.2 (c_isBoat S (nI k) (tnb T) t9) ?_
  rintro r u ⟨hr, hu⟩
  rw [hr, hu]
  clear hr hu r u
  refine x_ifB_eq 25 rfl rfl (fun hn => absurd hn (fun z => z (inr_t hk (by omega)))) (fun h14 => ?_)
  refine run_ok 2 (c' := (19, [(0, .ref 0), (1, .int (nI c)), (2, .int (nI k)), (3, .int (nI 0))], [.int (nI 2), .int (nI 0)], S)) rfl ?_
  refine x_callS [.int (nI 0), .int (nI 2)] rfl cs_N_isBelow.1 lk_6_73 cs_N_isBelow.2.1 rfl rfl (Nat.le_of_ble_eq_true rfl) (by decide) cs_N_isBelow.2.2 (c_isBelow S (nI 0) (nI 2)) ?_
  rintro r u ⟨hr, hu⟩
  rw [hr, hu]
  clear hr hu r u
  refine x_ifB_ne 29 rfl rfl (fun h22 => ?_) (fun hn => absurd (inr_t (by decide) (by decide)) hn)
  refine run_ok 2 (c' := (31, [(0, .ref 0), (1, .int (nI c)), (2, .int (nI k)), (3, .int (nI 0))], [.int (nI c), .ref 0], S)) rfl ?_
  refine x_callV [.int (nI c)] rfl cv_N_weighSunk.1 lk_6_239 cv_N_weighSunk.2.1 cv_N_weighSunk.2.2.1 rfl cv_N_weighSunk.2.2.2.1 rfl rfl (Nat.le_of_ble_eq_true rfl) (by decide) cv_N_weighSunk.2.2.2.2 (c_weighSunk S T hT hto hne c hc) ?_
  rintro r u ⟨hr, hsu, hfu⟩
  rw [hr]
  clear hr r
  have t10u : u.1 5 10 = nI (tne T) := by rw [hfu 5 (by decide)]; exact t10
  refine run_ok 1 (c' := (35, [(0, .ref 0), (1, .int (nI c)), (2, .int (nI k)), (3, .int (nI 0))], [.int (nI 0)], u)) rfl ?_
  refine x_ifN_ne 46 rfl rfl (by omega) (fun hn => absurd (by decide) hn) (fun h35 => ?_)
  refine run_ok 2 (c' := (40, [(0, .ref 0), (1, .int (nI c)), (2, .int (nI k)), (3, .int (nI 0))], [.int (nI k), .ref 0], u)) rfl ?_
  refine x_callV [.int (nI k)] rfl cv_N_chanceAbove.1 lk_6_242 cv_N_chanceAbove.2.1 cv_N_chanceAbove.2.2.1 rfl cv_N_chanceAbove.2.2.2.1 rfl rfl (Nat.le_of_ble_eq_true rfl) (by decide) cv_N_chanceAbove.2.2.2.2 (c_above u T t10u hne n8 (fun j => chs T c j (2 ^ tne T)) k hk hsu (by show chs T c k (2 ^ tne T) < 2 ^ 50; omega)) ?_
  rintro r x ⟨hr, hu⟩
  rw [hr, hu]
  clear hr hu r x
  refine run_ok 1 (c' := (51, [(0, .ref 0), (1, .int (nI c)), (2, .int (nI k)), (3, .int (nI 0))], [.long (lN (chs T c k (2 ^ tne T) / 2 ^ hlv (chs T c k (2 ^ tne T)) (4 * tne T) 0))], u)) rfl ?_
  exact x_ret (r := some (.long (lN (chs T c k (2 ^ tne T) / 2 ^ hlv (chs T c k (2 ^ tne T)) (4 * tne T) 0)))) rfl rfl trivial ⟨rfl, hfu⟩ rfl

set_option maxHeartbeats 2000000 in
theorem c_chance_ok1 (S : ST) (T : TD) (hT : TR 5 T S) (hto : tok T) (hne : tne T ≤ 8) (c k : Nat) (hc : c ≤ 16) (hk : k < tnb T) : EX me_N_chance 6 [.ref 0, .int (nI c), .int (nI k), .int (nI 1)] S (fun r u => r = some (.long (lN (2 ^ (4 * tne T - hlv (chs T c k (2 ^ tne T)) (4 * tne T) 0)))) ∧ fr CQ S u) := by
  refine EX.of mok_N_chance (Nat.le_of_ble_eq_true rfl) ?_
  obtain ⟨n8, n9, hbt, het, hht, hlo⟩ := id hto
  obtain ⟨t1, t2, t3, t4, t5, t6, t7, t8, t9, t10, t11⟩ := id hT
  have qc := chs_le T hc k hne (2 ^ tne T)
  have p8 : 2 ^ tne T ≤ 2 ^ 8 := Nat.pow_le_pow_right (by decide) hne
  refine run_ok 2 (c' := (3, [(0, .ref 0), (1, .int (nI c)), (2, .int (nI k)), (3, .int (nI 1))], [.int (nI 17), .int (nI c)], S)) rfl ?_
  refine x_callS [.int (nI c), .int (nI 17)] rfl cs_N_isBelow.1 lk_6_73 cs_N_isBelow.2.1 rfl rfl (Nat.le_of_ble_eq_true rfl) (by decide) cs_N_isBelow.2.2 (c_isBelow S (nI c) (nI 17)) ?_
  rintro r u ⟨hr, hu⟩
  rw [hr, hu]
  clear hr hu r u
  refine x_ifB_eq 25 rfl rfl (fun hn => absurd hn (fun z => z (inr_t (by omega) (by decide)))) (fun h6 => ?_)
  refine run_ok 2 (c' := (11, [(0, .ref 0), (1, .int (nI c)), (2, .int (nI k)), (3, .int (nI 1))], [.int (nI k), .ref 0], S)) rfl ?_
  refine x_callV [.int (nI k)] rfl cv_N_isBoat.1 lk_6_107 cv_N_isBoat.2.1 cv_N_isBoat.2.2.1 rfl cv_N_isBoat.2.2.2.1 rfl rfl (Nat.le_of_ble_eq_true rfl) (by decide) cv_N_isBoat.2.2.2.2 (c_isBoat S (nI k) (tnb T) t9) ?_
  rintro r u ⟨hr, hu⟩
  rw [hr, hu]
  clear hr hu r u
  refine x_ifB_eq 25 rfl rfl (fun hn => absurd hn (fun z => z (inr_t hk (by omega)))) (fun h14 => ?_)
  refine run_ok 2 (c' := (19, [(0, .ref 0), (1, .int (nI c)), (2, .int (nI k)), (3, .int (nI 1))], [.int (nI 2), .int (nI 1)], S)) rfl ?_
  refine x_callS [.int (nI 1), .int (nI 2)] rfl cs_N_isBelow.1 lk_6_73 cs_N_isBelow.2.1 rfl rfl (Nat.le_of_ble_eq_true rfl) (by decide) cs_N_isBelow.2.2 (c_isBelow S (nI 1) (nI 2)) ?_
  rintro r u ⟨hr, hu⟩
  rw [hr, hu]
  clear hr hu r u
  refine x_ifB_ne 29 rfl rfl (fun h22 => ?_) (fun hn => absurd (inr_t (by decide) (by decide)) hn)
  refine run_ok 2 (c' := (31, [(0, .ref 0), (1, .int (nI c)), (2, .int (nI k)), (3, .int (nI 1))], [.int (nI c), .ref 0], S)) rfl ?_
  refine x_callV [.int (nI c)] rfl cv_N_weighSunk.1 lk_6_239 cv_N_weighSunk.2.1 cv_N_weighSunk.2.2.1 rfl cv_N_weighSunk.2.2.2.1 rfl rfl (Nat.le_of_ble_eq_true rfl) (by decide) cv_N_weighSunk.2.2.2.2 (c_weighSunk S T hT hto hne c hc) ?_
  rintro r u ⟨hr, hsu, hfu⟩
  rw [hr]
  clear hr r
  have t10u : u.1 5 10 = nI (tne T) := by rw [hfu 5 (by decide)]; exact t10
  refine run_ok 1 (c' := (35, [(0, .ref 0), (1, .int (nI c)), (2, .int (nI k)), (3, .int (nI 1))], [.int (nI 1)], u)) rfl ?_
  refine x_ifN_ne 46 rfl rfl (by omega) (fun h35 => ?_) (fun hn => absurd hn (by decide))
  refine run_ok 2 (c' := (48, [(0, .ref 0), (1, .int (nI c)), (2, .int (nI k)), (3, .int (nI 1))], [.int (nI k), .ref 0], u)) rfl ?_
  refine x_callV [.int (nI k)] rfl cv_N_chanceBelow.1 lk_6_246 cv_N_chanceBelow.2.1 cv_N_chanceBelow.2.2.1 rfl cv_N_chanceBelow.2.2.2.1 rfl rfl (Nat.le_of_ble_eq_true rfl) (by decide) cv_N_chanceBelow.2.2.2.2 (c_below u T t10u hne n8 (fun j => chs T c j (2 ^ tne T)) k hk hsu (by show chs T c k (2 ^ tne T) < 2 ^ 50; omega)) ?_
  rintro r x ⟨hr, hu⟩
  rw [hr, hu]
  clear hr hu r x
  exact x_ret (r := some (.long (lN (2 ^ (4 * tne T - hlv (chs T c k (2 ^ tne T)) (4 * tne T) 0))))) rfl rfl trivial ⟨rfl, hfu⟩ rfl


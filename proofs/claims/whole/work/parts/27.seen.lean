/-! spare, never, sort, hated, ask of the class -/
theorem x_icmpB_ne {M : MI} {D : Nat} {sc : Option (Nat × (Nat → Int32))} {Q : Option Value → ST → Prop} {pc : Nat} {lv : List (Nat × Value)} {st : List Value} {S : ST} {p : Prop} [Decidable p] {off : Int} (tgt : Nat) (hf : fet M pc = some (.if_icmp .ne off)) (ht : (pc : Int) + off = (tgt : Int)) (kt : ¬ p → BX M D sc Q (tgt, lv, st, S)) (kf : p → BX M D sc Q (pc + 3, lv, st, S)) : BX M D sc Q (pc, lv, .int (nI 1) :: .int (b2 p) :: st, S) :=
  x_icmp_ne tgt hf ht (fun q => kt (fun z => q (b2_t z))) (fun q => kf ((b2_1 p).mp q))
theorem x_icmpB_eq {M : MI} {D : Nat} {sc : Option (Nat × (Nat → Int32))} {Q : Option Value → ST → Prop} {pc : Nat} {lv : List (Nat × Value)} {st : List Value} {S : ST} {p : Prop} [Decidable p] {off : Int} (tgt : Nat) (hf : fet M pc = some (.if_icmp .eq off)) (ht : (pc : Int) + off = (tgt : Int)) (kt : p → BX M D sc Q (tgt, lv, st, S)) (kf : ¬ p → BX M D sc Q (pc + 3, lv, st, S)) : BX M D sc Q (pc, lv, .int (nI 1) :: .int (b2 p) :: st, S) :=
  x_icmp_eq tgt hf ht (fun q => kt ((b2_1 p).mp q)) (fun q => kf (fun z => q (b2_t z)))
def bcF (x : Int32) : Int32 := (((((((x - (((x.toUInt32 >>> ((nI 1).toUInt32 &&& Int32.toUInt32 31)).toInt32) &&& (nI 1431655765))) &&& (nI 858993459)) + ((((x - (((x.toUInt32 >>> ((nI 1).toUInt32 &&& Int32.toUInt32 31)).toInt32) &&& (nI 1431655765))).toUInt32 >>> ((nI 2).toUInt32 &&& Int32.toUInt32 31)).toInt32) &&& (nI 858993459))) + (((((x - (((x.toUInt32 >>> ((nI 1).toUInt32 &&& Int32.toUInt32 31)).toInt32) &&& (nI 1431655765))) &&& (nI 858993459)) + ((((x - (((x.toUInt32 >>> ((nI 1).toUInt32 &&& Int32.toUInt32 31)).toInt32) &&& (nI 1431655765))).toUInt32 >>> ((nI 2).toUInt32 &&& Int32.toUInt32 31)).toInt32) &&& (nI 858993459))).toUInt32 >>> ((nI 4).toUInt32 &&& Int32.toUInt32 31)).toInt32)) &&& (nI 252645135)) + (((((((x - (((x.toUInt32 >>> ((nI 1).toUInt32 &&& Int32.toUInt32 31)).toInt32) &&& (nI 1431655765))) &&& (nI 858993459)) + ((((x - (((x.toUInt32 >>> ((nI 1).toUInt32 &&& Int32.toUInt32 31)).toInt32) &&& (nI 1431655765))).toUInt32 >>> ((nI 2).toUInt32 &&& Int32.toUInt32 31)).toInt32) &&& (nI 858993459))) + (((((x - (((x.toUInt32 >>> ((nI 1).toUInt32 &&& Int32.toUInt32 31)).toInt32) &&& (nI 1431655765))) &&& (nI 858993459)) + ((((x - (((x.toUInt32 >>> ((nI 1).toUInt32 &&& Int32.toUInt32 31)).toInt32) &&& (nI 1431655765))).toUInt32 >>> ((nI 2).toUInt32 &&& Int32.toUInt32 31)).toInt32) &&& (nI 858993459))).toUInt32 >>> ((nI 4).toUInt32 &&& Int32.toUInt32 31)).toInt32)) &&& (nI 252645135)).toUInt32 >>> ((nI 8).toUInt32 &&& Int32.toUInt32 31)).toInt32)) + ((((((((x - (((x.toUInt32 >>> ((nI 1).toUInt32 &&& Int32.toUInt32 31)).toInt32) &&& (nI 1431655765))) &&& (nI 858993459)) + ((((x - (((x.toUInt32 >>> ((nI 1).toUInt32 &&& Int32.toUInt32 31)).toInt32) &&& (nI 1431655765))).toUInt32 >>> ((nI 2).toUInt32 &&& Int32.toUInt32 31)).toInt32) &&& (nI 858993459))) + (((((x - (((x.toUInt32 >>> ((nI 1).toUInt32 &&& Int32.toUInt32 31)).toInt32) &&& (nI 1431655765))) &&& (nI 858993459)) + ((((x - (((x.toUInt32 >>> ((nI 1).toUInt32 &&& Int32.toUInt32 31)).toInt32) &&& (nI 1431655765))).toUInt32 >>> ((nI 2).toUInt32 &&& Int32.toUInt32 31)).toInt32) &&& (nI 858993459))).toUInt32 >>> ((nI 4).toUInt32 &&& Int32.toUInt32 31)).toInt32)) &&& (nI 252645135)) + (((((((x - (((x.toUInt32 >>> ((nI 1).toUInt32 &&& Int32.toUInt32 31)).toInt32) &&& (nI 1431655765))) &&& (nI 858993459)) + ((((x - (((x.toUInt32 >>> ((nI 1).toUInt32 &&& Int32.toUInt32 31)).toInt32) &&& (nI 1431655765))).toUInt32 >>> ((nI 2).toUInt32 &&& Int32.toUInt32 31)).toInt32) &&& (nI 858993459))) + (((((x - (((x.toUInt32 >>> ((nI 1).toUInt32 &&& Int32.toUInt32 31)).toInt32) &&& (nI 1431655765))) &&& (nI 858993459)) + ((((x - (((x.toUInt32 >>> ((nI 1).toUInt32 &&& Int32.toUInt32 31)).toInt32) &&& (nI 1431655765))).toUInt32 >>> ((nI 2).toUInt32 &&& Int32.toUInt32 31)).toInt32) &&& (nI 858993459))).toUInt32 >>> ((nI 4).toUInt32 &&& Int32.toUInt32 31)).toInt32)) &&& (nI 252645135)).toUInt32 >>> ((nI 8).toUInt32 &&& Int32.toUInt32 31)).toInt32)).toUInt32 >>> ((nI 16).toUInt32 &&& Int32.toUInt32 31)).toInt32)) &&& (nI 63)
theorem c_bitCount (S : ST) (x : Int32) : EX me_J_bitCount 0 [.int x] S (fun r u => r = some (.int (bcF x)) ∧ u = S) := by
  refine EX.of mok_J_bitCount (Nat.le_of_ble_eq_true rfl) ?_
  refine run_ok 41 (c' := (52, [(0, .int (((((((x - (((x.toUInt32 >>> ((nI 1).toUInt32 &&& Int32.toUInt32 31)).toInt32) &&& (nI 1431655765))) &&& (nI 858993459)) + ((((x - (((x.toUInt32 >>> ((nI 1).toUInt32 &&& Int32.toUInt32 31)).toInt32) &&& (nI 1431655765))).toUInt32 >>> ((nI 2).toUInt32 &&& Int32.toUInt32 31)).toInt32) &&& (nI 858993459))) + (((((x - (((x.toUInt32 >>> ((nI 1).toUInt32 &&& Int32.toUInt32 31)).toInt32) &&& (nI 1431655765))) &&& (nI 858993459)) + ((((x - (((x.toUInt32 >>> ((nI 1).toUInt32 &&& Int32.toUInt32 31)).toInt32) &&& (nI 1431655765))).toUInt32 >>> ((nI 2).toUInt32 &&& Int32.toUInt32 31)).toInt32) &&& (nI 858993459))).toUInt32 >>> ((nI 4).toUInt32 &&& Int32.toUInt32 31)).toInt32)) &&& (nI 252645135)) + (((((((x - (((x.toUInt32 >>> ((nI 1).toUInt32 &&& Int32.toUInt32 31)).toInt32) &&& (nI 1431655765))) &&& (nI 858993459)) + ((((x - (((x.toUInt32 >>> ((nI 1).toUInt32 &&& Int32.toUInt32 31)).toInt32) &&& (nI 1431655765))).toUInt32 >>> ((nI 2).toUInt32 &&& Int32.toUInt32 31)).toInt32) &&& (nI 858993459))) + (((((x - (((x.toUInt32 >>> ((nI 1).toUInt32 &&& Int32.toUInt32 31)).toInt32) &&& (nI 1431655765))) &&& (nI 858993459)) + ((((x - (((x.toUInt32 >>> ((nI 1).toUInt32 &&& Int32.toUInt32 31)).toInt32) &&& (nI 1431655765))).toUInt32 >>> ((nI 2).toUInt32 &&& Int32.toUInt32 31)).toInt32) &&& (nI 858993459))).toUInt32 >>> ((nI 4).toUInt32 &&& Int32.toUInt32 31)).toInt32)) &&& (nI 252645135)).toUInt32 >>> ((nI 8).toUInt32 &&& Int32.toUInt32 31)).toInt32)) + ((((((((x - (((x.toUInt32 >>> ((nI 1).toUInt32 &&& Int32.toUInt32 31)).toInt32) &&& (nI 1431655765))) &&& (nI 858993459)) + ((((x - (((x.toUInt32 >>> ((nI 1).toUInt32 &&& Int32.toUInt32 31)).toInt32) &&& (nI 1431655765))).toUInt32 >>> ((nI 2).toUInt32 &&& Int32.toUInt32 31)).toInt32) &&& (nI 858993459))) + (((((x - (((x.toUInt32 >>> ((nI 1).toUInt32 &&& Int32.toUInt32 31)).toInt32) &&& (nI 1431655765))) &&& (nI 858993459)) + ((((x - (((x.toUInt32 >>> ((nI 1).toUInt32 &&& Int32.toUInt32 31)).toInt32) &&& (nI 1431655765))).toUInt32 >>> ((nI 2).toUInt32 &&& Int32.toUInt32 31)).toInt32) &&& (nI 858993459))).toUInt32 >>> ((nI 4).toUInt32 &&& Int32.toUInt32 31)).toInt32)) &&& (nI 252645135)) + (((((((x - (((x.toUInt32 >>> ((nI 1).toUInt32 &&& Int32.toUInt32 31)).toInt32) &&& (nI 1431655765))) &&& (nI 858993459)) + ((((x - (((x.toUInt32 >>> ((nI 1).toUInt32 &&& Int32.toUInt32 31)).toInt32) &&& (nI 1431655765))).toUInt32 >>> ((nI 2).toUInt32 &&& Int32.toUInt32 31)).toInt32) &&& (nI 858993459))) + (((((x - (((x.toUInt32 >>> ((nI 1).toUInt32 &&& Int32.toUInt32 31)).toInt32) &&& (nI 1431655765))) &&& (nI 858993459)) + ((((x - (((x.toUInt32 >>> ((nI 1).toUInt32 &&& Int32.toUInt32 31)).toInt32) &&& (nI 1431655765))).toUInt32 >>> ((nI 2).toUInt32 &&& Int32.toUInt32 31)).toInt32) &&& (nI 858993459))).toUInt32 >>> ((nI 4).toUInt32 &&& Int32.toUInt32 31)).toInt32)) &&& (nI 252645135)).toUInt32 >>> ((nI 8).toUInt32 &&& Int32.toUInt32 31)).toInt32)).toUInt32 >>> ((nI 16).toUInt32 &&& Int32.toUInt32 31)).toInt32)))], [.int ((((((((x - (((x.toUInt32 >>> ((nI 1).toUInt32 &&& Int32.toUInt32 31)).toInt32) &&& (nI 1431655765))) &&& (nI 858993459)) + ((((x - (((x.toUInt32 >>> ((nI 1).toUInt32 &&& Int32.toUInt32 31)).toInt32) &&& (nI 1431655765))).toUInt32 >>> ((nI 2).toUInt32 &&& Int32.toUInt32 31)).toInt32) &&& (nI 858993459))) + (((((x - (((x.toUInt32 >>> ((nI 1).toUInt32 &&& Int32.toUInt32 31)).toInt32) &&& (nI 1431655765))) &&& (nI 858993459)) + ((((x - (((x.toUInt32 >>> ((nI 1).toUInt32 &&& Int32.toUInt32 31)).toInt32) &&& (nI 1431655765))).toUInt32 >>> ((nI 2).toUInt32 &&& Int32.toUInt32 31)).toInt32) &&& (nI 858993459))).toUInt32 >>> ((nI 4).toUInt32 &&& Int32.toUInt32 31)).toInt32)) &&& (nI 252645135)) + (((((((x - (((x.toUInt32 >>> ((nI 1).toUInt32 &&& Int32.toUInt32 31)).toInt32) &&& (nI 1431655765))) &&& (nI 858993459)) + ((((x - (((x.toUInt32 >>> ((nI 1).toUInt32 &&& Int32.toUInt32 31)).toInt32) &&& (nI 1431655765))).toUInt32 >>> ((nI 2).toUInt32 &&& Int32.toUInt32 31)).toInt32) &&& (nI 858993459))) + (((((x - (((x.toUInt32 >>> ((nI 1).toUInt32 &&& Int32.toUInt32 31)).toInt32) &&& (nI 1431655765))) &&& (nI 858993459)) + ((((x - (((x.toUInt32 >>> ((nI 1).toUInt32 &&& Int32.toUInt32 31)).toInt32) &&& (nI 1431655765))).toUInt32 >>> ((nI 2).toUInt32 &&& Int32.toUInt32 31)).toInt32) &&& (nI 858993459))).toUInt32 >>> ((nI 4).toUInt32 &&& Int32.toUInt32 31)).toInt32)) &&& (nI 252645135)).toUInt32 >>> ((nI 8).toUInt32 &&& Int32.toUInt32 31)).toInt32)) + ((((((((x - (((x.toUInt32 >>> ((nI 1).toUInt32 &&& Int32.toUInt32 31)).toInt32) &&& (nI 1431655765))) &&& (nI 858993459)) + ((((x - (((x.toUInt32 >>> ((nI 1).toUInt32 &&& Int32.toUInt32 31)).toInt32) &&& (nI 1431655765))).toUInt32 >>> ((nI 2).toUInt32 &&& Int32.toUInt32 31)).toInt32) &&& (nI 858993459))) + (((((x - (((x.toUInt32 >>> ((nI 1).toUInt32 &&& Int32.toUInt32 31)).toInt32) &&& (nI 1431655765))) &&& (nI 858993459)) + ((((x - (((x.toUInt32 >>> ((nI 1).toUInt32 &&& Int32.toUInt32 31)).toInt32) &&& (nI 1431655765))).toUInt32 >>> ((nI 2).toUInt32 &&& Int32.toUInt32 31)).toInt32) &&& (nI 858993459))).toUInt32 >>> ((nI 4).toUInt32 &&& Int32.toUInt32 31)).toInt32)) &&& (nI 252645135)) + (((((((x - (((x.toUInt32 >>> ((nI 1).toUInt32 &&& Int32.toUInt32 31)).toInt32) &&& (nI 1431655765))) &&& (nI 858993459)) + ((((x - (((x.toUInt32 >>> ((nI 1).toUInt32 &&& Int32.toUInt32 31)).toInt32) &&& (nI 1431655765))).toUInt32 >>> ((nI 2).toUInt32 &&& Int32.toUInt32 31)).toInt32) &&& (nI 858993459))) + (((((x - (((x.toUInt32 >>> ((nI 1).toUInt32 &&& Int32.toUInt32 31)).toInt32) &&& (nI 1431655765))) &&& (nI 858993459)) + ((((x - (((x.toUInt32 >>> ((nI 1).toUInt32 &&& Int32.toUInt32 31)).toInt32) &&& (nI 1431655765))).toUInt32 >>> ((nI 2).toUInt32 &&& Int32.toUInt32 31)).toInt32) &&& (nI 858993459))).toUInt32 >>> ((nI 4).toUInt32 &&& Int32.toUInt32 31)).toInt32)) &&& (nI 252645135)).toUInt32 >>> ((nI 8).toUInt32 &&& Int32.toUInt32 31)).toInt32)).toUInt32 >>> ((nI 16).toUInt32 &&& Int32.toUInt32 31)).toInt32)) &&& (nI 63))], S)) rfl ?_
  exact x_ret (r := some (.int ((((((((x - (((x.toUInt32 >>> ((nI 1).toUInt32 &&& Int32.toUInt32 31)).toInt32) &&& (nI 1431655765))) &&& (nI 858993459)) + ((((x - (((x.toUInt32 >>> ((nI 1).toUInt32 &&& Int32.toUInt32 31)).toInt32) &&& (nI 1431655765))).toUInt32 >>> ((nI 2).toUInt32 &&& Int32.toUInt32 31)).toInt32) &&& (nI 858993459))) + (((((x - (((x.toUInt32 >>> ((nI 1).toUInt32 &&& Int32.toUInt32 31)).toInt32) &&& (nI 1431655765))) &&& (nI 858993459)) + ((((x - (((x.toUInt32 >>> ((nI 1).toUInt32 &&& Int32.toUInt32 31)).toInt32) &&& (nI 1431655765))).toUInt32 >>> ((nI 2).toUInt32 &&& Int32.toUInt32 31)).toInt32) &&& (nI 858993459))).toUInt32 >>> ((nI 4).toUInt32 &&& Int32.toUInt32 31)).toInt32)) &&& (nI 252645135)) + (((((((x - (((x.toUInt32 >>> ((nI 1).toUInt32 &&& Int32.toUInt32 31)).toInt32) &&& (nI 1431655765))) &&& (nI 858993459)) + ((((x - (((x.toUInt32 >>> ((nI 1).toUInt32 &&& Int32.toUInt32 31)).toInt32) &&& (nI 1431655765))).toUInt32 >>> ((nI 2).toUInt32 &&& Int32.toUInt32 31)).toInt32) &&& (nI 858993459))) + (((((x - (((x.toUInt32 >>> ((nI 1).toUInt32 &&& Int32.toUInt32 31)).toInt32) &&& (nI 1431655765))) &&& (nI 858993459)) + ((((x - (((x.toUInt32 >>> ((nI 1).toUInt32 &&& Int32.toUInt32 31)).toInt32) &&& (nI 1431655765))).toUInt32 >>> ((nI 2).toUInt32 &&& Int32.toUInt32 31)).toInt32) &&& (nI 858993459))).toUInt32 >>> ((nI 4).toUInt32 &&& Int32.toUInt32 31)).toInt32)) &&& (nI 252645135)).toUInt32 >>> ((nI 8).toUInt32 &&& Int32.toUInt32 31)).toInt32)) + ((((((((x - (((x.toUInt32 >>> ((nI 1).toUInt32 &&& Int32.toUInt32 31)).toInt32) &&& (nI 1431655765))) &&& (nI 858993459)) + ((((x - (((x.toUInt32 >>> ((nI 1).toUInt32 &&& Int32.toUInt32 31)).toInt32) &&& (nI 1431655765))).toUInt32 >>> ((nI 2).toUInt32 &&& Int32.toUInt32 31)).toInt32) &&& (nI 858993459))) + (((((x - (((x.toUInt32 >>> ((nI 1).toUInt32 &&& Int32.toUInt32 31)).toInt32) &&& (nI 1431655765))) &&& (nI 858993459)) + ((((x - (((x.toUInt32 >>> ((nI 1).toUInt32 &&& Int32.toUInt32 31)).toInt32) &&& (nI 1431655765))).toUInt32 >>> ((nI 2).toUInt32 &&& Int32.toUInt32 31)).toInt32) &&& (nI 858993459))).toUInt32 >>> ((nI 4).toUInt32 &&& Int32.toUInt32 31)).toInt32)) &&& (nI 252645135)) + (((((((x - (((x.toUInt32 >>> ((nI 1).toUInt32 &&& Int32.toUInt32 31)).toInt32) &&& (nI 1431655765))) &&& (nI 858993459)) + ((((x - (((x.toUInt32 >>> ((nI 1).toUInt32 &&& Int32.toUInt32 31)).toInt32) &&& (nI 1431655765))).toUInt32 >>> ((nI 2).toUInt32 &&& Int32.toUInt32 31)).toInt32) &&& (nI 858993459))) + (((((x - (((x.toUInt32 >>> ((nI 1).toUInt32 &&& Int32.toUInt32 31)).toInt32) &&& (nI 1431655765))) &&& (nI 858993459)) + ((((x - (((x.toUInt32 >>> ((nI 1).toUInt32 &&& Int32.toUInt32 31)).toInt32) &&& (nI 1431655765))).toUInt32 >>> ((nI 2).toUInt32 &&& Int32.toUInt32 31)).toInt32) &&& (nI 858993459))).toUInt32 >>> ((nI 4).toUInt32 &&& Int32.toUInt32 31)).toInt32)) &&& (nI 252645135)).toUInt32 >>> ((nI 8).toUInt32 &&& Int32.toUInt32 31)).toInt32)).toUInt32 >>> ((nI 16).toUInt32 &&& Int32.toUInt32 31)).toInt32)) &&& (nI 63)))) rfl rfl trivial ⟨rfl, rfl⟩ rfl

def pcn (m : Nat) : Nat := cnt (fun i => m.testBit i) 9
theorem bcF_ok : ∀ m, m < 512 → bcF (nI m) = nI (pcn m) := by decide +kernel
def pb (m x : Nat) : Nat → Nat → Nat → Option Nat
  | 0, _, _ => none
  | n + 1, j, ps => if m.testBit j = true then (if ps = x then some j else pb m x n (j + 1) (ps + 1)) else pb m x n (j + 1) ps
theorem bit_b {lo e : Nat} (hl : lo < 2147483648) (he : e < 32) : (nI lo >>> (nI e &&& 31)) &&& nI 1 = b2 (lo.testBit e = true) := by
  rw [bit_t hl he]
  unfold b2
  split <;> rfl
theorem spv_n1 {o : Option Nat} (h : ∀ m, o = some m → m < 2147483648) : spv o = (-1) ↔ o = none := by
  cases o with
  | none => exact ⟨fun _ => rfl, fun _ => rfl⟩
  | some m =>
    refine ⟨fun e => ?_, fun e => by cases e⟩
    have h2 : (nI m).toInt = (m : Int) := nI_toInt (h m rfl)
    have e' : nI m = -1 := e
    rw [e'] at h2
    have h3 : ((-1 : Int32)).toInt = -1 := by decide
    omega
theorem sp1_lt (T : TD) : ∀ n e x, sp1 T n e = some x → x < e + n := by
  intro n
  induction n with
  | zero => intro e x h; cases h
  | succ n ih =>
    intro e x h
    unfold sp1 at h
    split at h
    · cases h; omega
    · have := ih _ _ h; omega
theorem sp2_lt (T : TD) (e : Nat) : ∀ n f x, sp2 T e n f = some x → f ≤ x ∧ x < f + n := by
  intro n
  induction n with
  | zero => intro f x h; cases h
  | succ n ih =>
    intro f x h
    unfold sp2 at h
    split at h
    · cases h; omega
    · have := ih _ _ h; omega
theorem sp3_lt (T : TD) : ∀ n e x, sp3 T n e = some x → x.1 < x.2 ∧ x.2 < e + n := by
  intro n
  induction n with
  | zero => intro e x h; cases h
  | succ n ih =>
    intro e x h
    unfold sp3 at h
    split at h
    · rename_i f hf
      cases h
      have := sp2_lt T e _ _ _ hf
      exact ⟨by show e < f; omega, by show f < _; omega⟩
    · have := ih _ _ h; omega
theorem spb_lt {T : TD} (hn : tne T ≤ 9) {m : Nat} (h : spb T = some m) : m < 512 := by
  unfold spb at h
  split at h
  · cases h; decide
  · split at h
    · rename_i e he
      cases h
      exact p9 (by have := sp1_lt T _ _ _ he; omega)
    · split at h
      · rename_i q hq
        cases h
        have := sp3_lt T _ _ _ hq
        exact p2le this.1 (by omega)
      · cases h
set_option maxHeartbeats 2000000 in
theorem c_placeOfBit (S : ST) (m x : Nat) (hm : m < 512) (hx : x ≤ 1) : EX me_N_placeOfBit 0 [.int (nI m), .int (nI x)] S (fun r u => r = some (.int (spv (pb m x 8 0 0))) ∧ u = S) := by
  refine EX.of mok_N_placeOfBit (Nat.le_of_ble_eq_true rfl) ?_
  have H : ∀ j, j ≤ 8 → ∀ ps, ps ≤ j → pb m x 8 0 0 = pb m x (8 - j) j ps → BX me_N_placeOfBit 0 none (fun r u => r = some (.int (spv (pb m x 8 0 0))) ∧ u = S) (4, [(0, .int (nI m)), (1, .int (nI x)), (2, .int (nI ps)), (3, .int (nI j))], [], S) := by
    refine loop_up (P := fun j => ∀ ps, ps ≤ j → pb m x 8 0 0 = pb m x (8 - j) j ps → BX me_N_placeOfBit 0 none (fun r u => r = some (.int (spv (pb m x 8 0 0))) ∧ u = S) (4, [(0, .int (nI m)), (1, .int (nI x)), (2, .int (nI ps)), (3, .int (nI j))], [], S)) 8 ?_ ?_
    · intro ps hps hs
      refine run_ok 2 (c' := (7, [(0, .int (nI m)), (1, .int (nI x)), (2, .int (nI ps)), (3, .int (nI 8))], [.int (nI 8), .int (nI 8)], S)) rfl ?_
      refine x_icmpN_ge 35 rfl rfl (by omega) (by omega) (fun h7 => ?_) (fun hn => absurd (Nat.le_refl 8) hn)
      refine run_ok 1 (c' := (36, [(0, .int (nI m)), (1, .int (nI x)), (2, .int (nI ps)), (3, .int (nI 8))], [.int (-1)], S)) rfl ?_
      exact x_ret (r := some (.int (-1))) rfl rfl trivial ⟨by rw [hs]; rfl, rfl⟩ rfl
    · intro j hj ih ps hps hs
      refine run_ok 2 (c' := (7, [(0, .int (nI m)), (1, .int (nI x)), (2, .int (nI ps)), (3, .int (nI j))], [.int (nI 8), .int (nI j)], S)) rfl ?_
      refine x_icmpN_ge 35 rfl rfl (by omega) (by omega) (fun hn => absurd hn (show ¬ 8 ≤ j by omega)) (fun h7 => ?_)
      refine run_ok 5 (c' := (15, [(0, .int (nI m)), (1, .int (nI x)), (2, .int (nI ps)), (3, .int (nI j))], [.int (((nI m) >>> ((nI j) &&& 31)) &&& (nI 1))], S)) rfl ?_
      refine x_top (v' := b2 (m.testBit j = true)) (bit_b (by omega) (by omega)) ?_
      refine run_ok 1 (c' := (16, [(0, .int (nI m)), (1, .int (nI x)), (2, .int (nI ps)), (3, .int (nI j))], [.int (nI 1), .int (b2 (m.testBit j = true))], S)) rfl ?_
      refine x_icmpB_ne 29 rfl rfl (fun h16 => ?_) (fun h16 => ?_)
      · refine run_ok 1 (c' := (32, [(0, .int (nI m)), (1, .int (nI x)), (2, .int (nI ps)), (3, .int (nI j + nI 1))], [], S)) rfl ?_
        rw [nI_add j 1]
        refine run_ok 1 (c' := (4, [(0, .int (nI m)), (1, .int (nI x)), (2, .int (nI ps)), (3, .int (nI (j + 1)))], [], S)) rfl ?_
        exact ih _ (by omega) (by rw [hs, show 8 - j = (8 - (j + 1)) + 1 by omega]; exact if_neg h16)
      · refine run_ok 2 (c' := (21, [(0, .int (nI m)), (1, .int (nI x)), (2, .int (nI ps)), (3, .int (nI j))], [.int (nI x), .int (nI ps)], S)) rfl ?_
        refine x_icmpN_ne 26 rfl rfl (by omega) (by omega) (fun h21 => ?_) (fun h21 => ?_)
        · refine run_ok 1 (c' := (29, [(0, .int (nI m)), (1, .int (nI x)), (2, .int (nI ps + nI 1)), (3, .int (nI j))], [], S)) rfl ?_
          rw [nI_add ps 1]
          refine run_ok 1 (c' := (32, [(0, .int (nI m)), (1, .int (nI x)), (2, .int (nI (ps + 1))), (3, .int (nI j + nI 1))], [], S)) rfl ?_
          rw [nI_add j 1]
          refine run_ok 1 (c' := (4, [(0, .int (nI m)), (1, .int (nI x)), (2, .int (nI (ps + 1))), (3, .int (nI (j + 1)))], [], S)) rfl ?_
          exact ih _ (by omega) (by rw [hs, show 8 - j = (8 - (j + 1)) + 1 by omega]; exact (if_pos h16).trans (if_neg h21))
        · refine run_ok 1 (c' := (25, [(0, .int (nI m)), (1, .int (nI x)), (2, .int (nI ps)), (3, .int (nI j))], [.int (nI j)], S)) rfl ?_
          exact x_ret (r := some (.int (nI j))) rfl rfl trivial ⟨by rw [hs, show 8 - j = (8 - (j + 1)) + 1 by omega, show pb m x (8 - (j + 1) + 1) j ps = some j from (if_pos h16).trans (if_pos h21)]; rfl, rfl⟩ rfl
  refine run_ok 4 (c' := (4, [(0, .int (nI m)), (1, .int (nI x)), (2, .int (nI 0)), (3, .int (nI 0))], [], S)) rfl ?_
  exact H 0 (by omega) 0 (Nat.le_refl 0) rfl

def spa (T : TD) (i : Option Nat) : Int32 := match spb T with
  | none => (-1)
  | some m => match i with
    | none => nI (pcn m)
    | some x => spv (pb m x 8 0 0)
set_option maxHeartbeats 2000000 in
theorem c_spare_n (S : ST) (T : TD) (hT : TR 5 T S) (hto : tok T) (hne : tne T ≤ 8) : EX me_N_spare 7 [.ref 0, .int (-1)] S (fun r u => r = some (.int (spa T none)) ∧ fr CQ S u) := by
  refine EX.of mok_N_spare (Nat.le_of_ble_eq_true rfl) ?_
  obtain ⟨n8, n9, hbt, het, hht, hlo⟩ := id hto
  obtain ⟨t1, t2, t3, t4, t5, t6, t7, t8, t9, t10, t11⟩ := id hT
  refine run_ok 2 (c' := (2, [(0, .ref 0), (1, .int (-1))], [.int (-1), .int (-1)], S)) rfl ?_
  refine x_icmp_lt 10 rfl rfl (fun hn => absurd hn (by decide)) (fun h2 => ?_)
  refine run_ok 2 (c' := (7, [(0, .ref 0), (1, .int (-1))], [.int (nI 1), .int (-1)], S)) rfl ?_
  refine x_icmp_le 13 rfl rfl (fun h7 => ?_) (fun hn => absurd (by decide) hn)
  refine run_ok 1 (c' := (14, [(0, .ref 0), (1, .int (-1))], [.ref 0], S)) rfl ?_
  refine x_callV [] rfl cv_N_spareBits.1 lk_6_205 cv_N_spareBits.2.1 cv_N_spareBits.2.2.1 rfl cv_N_spareBits.2.2.2.1 rfl rfl (Nat.le_of_ble_eq_true rfl) (by decide) cv_N_spareBits.2.2.2.2 (c_spareBits S T hT hto hne) ?_
  rintro r u ⟨hr, hfu⟩
  rw [hr]
  clear hr r
  refine run_ok 3 (c' := (20, [(0, .ref 0), (1, .int (-1)), (2, .int (spv (spb T)))], [.int (-1), .int (spv (spb T))], u)) rfl ?_
  refine x_icmp_ne 25 rfl rfl (fun h20 => ?_) (fun h20 => ?_)
  · have hm : ∃ m, spb T = some m := by
      cases hsp : spb T with
      | none => exact absurd (by rw [hsp]; rfl) h20
      | some m => exact ⟨m, rfl⟩
    obtain ⟨m, hm⟩ := hm
    have hm5 := spb_lt n9 hm
    rw [hm]
    rw [show spv (some m) = nI m from rfl]
    refine run_ok 2 (c' := (27, [(0, .ref 0), (1, .int (-1)), (2, .int (nI m))], [.int (-1), .int (-1)], u)) rfl ?_
    refine x_icmp_ne 37 rfl rfl (fun hn => absurd rfl hn) (fun h27 => ?_)
    refine run_ok 1 (c' := (31, [(0, .ref 0), (1, .int (-1)), (2, .int (nI m))], [.int (nI m)], u)) rfl ?_
    refine x_callS [.int (nI m)] rfl cs_J_bitCount.1 lk_6_209 cs_J_bitCount.2.1 rfl rfl (Nat.le_of_ble_eq_true rfl) (by decide) cs_J_bitCount.2.2 (c_bitCount u (nI m)) ?_
    rintro r x ⟨hr, hu⟩
    rw [hr, hu]
    clear hr hu r x
    refine x_top (v' := nI (pcn m)) (bcF_ok m hm5) ?_
    refine run_ok 1 (c' := (42, [(0, .ref 0), (1, .int (-1)), (2, .int (nI m))], [.int (nI (pcn m))], u)) rfl ?_
    exact x_ret (r := some (.int (nI (pcn m)))) rfl rfl trivial ⟨by unfold spa; rw [hm], hfu⟩ rfl
  · refine run_ok 1 (c' := (24, [(0, .ref 0), (1, .int (-1)), (2, .int (spv (spb T)))], [.int (-1)], u)) rfl ?_
    exact x_ret (r := some (.int (-1))) rfl rfl trivial ⟨by unfold spa; rw [(spv_n1 (fun m hm => by have := spb_lt n9 hm; omega)).mp h20], hfu⟩ rfl

set_option maxHeartbeats 2000000 in
theorem c_spare_0 (S : ST) (T : TD) (hT : TR 5 T S) (hto : tok T) (hne : tne T ≤ 8) : EX me_N_spare 7 [.ref 0, .int (nI 0)] S (fun r u => r = some (.int (spa T (some 0))) ∧ fr CQ S u) := by
  refine EX.of mok_N_spare (Nat.le_of_ble_eq_true rfl) ?_
  obtain ⟨n8, n9, hbt, het, hht, hlo⟩ := id hto
  obtain ⟨t1, t2, t3, t4, t5, t6, t7, t8, t9, t10, t11⟩ := id hT
  refine run_ok 2 (c' := (2, [(0, .ref 0), (1, .int (nI 0))], [.int (-1), .int (nI 0)], S)) rfl ?_
  refine x_icmp_lt 10 rfl rfl (fun hn => absurd hn (by decide)) (fun h2 => ?_)
  refine run_ok 2 (c' := (7, [(0, .ref 0), (1, .int (nI 0))], [.int (nI 1), .int (nI 0)], S)) rfl ?_
  refine x_icmpN_le 13 rfl rfl (by omega) (by omega) (fun h7 => ?_) (fun hn => absurd (by decide) hn)
  refine run_ok 1 (c' := (14, [(0, .ref 0), (1, .int (nI 0))], [.ref 0], S)) rfl ?_
  refine x_callV [] rfl cv_N_spareBits.1 lk_6_205 cv_N_spareBits.2.1 cv_N_spareBits.2.2.1 rfl cv_N_spareBits.2.2.2.1 rfl rfl (Nat.le_of_ble_eq_true rfl) (by decide) cv_N_spareBits.2.2.2.2 (c_spareBits S T hT hto hne) ?_
  rintro r u ⟨hr, hfu⟩
  rw [hr]
  clear hr r
  refine run_ok 3 (c' := (20, [(0, .ref 0), (1, .int (nI 0)), (2, .int (spv (spb T)))], [.int (-1), .int (spv (spb T))], u)) rfl ?_
  refine x_icmp_ne 25 rfl rfl (fun h20 => ?_) (fun h20 => ?_)
  · have hm : ∃ m, spb T = some m := by
      cases hsp : spb T with
      | none => exact absurd (by rw [hsp]; rfl) h20
      | some m => exact ⟨m, rfl⟩
    obtain ⟨m, hm⟩ := hm
    have hm5 := spb_lt n9 hm
    rw [hm]
    rw [show spv (some m) = nI m from rfl]
    refine run_ok 2 (c' := (27, [(0, .ref 0), (1, .int (nI 0)), (2, .int (nI m))], [.int (-1), .int (nI 0)], u)) rfl ?_
    refine x_icmp_ne 37 rfl rfl (fun h27 => ?_) (fun hn => absurd hn (by decide))
    refine run_ok 2 (c' := (39, [(0, .ref 0), (1, .int (nI 0)), (2, .int (nI m))], [.int (nI 0), .int (nI m)], u)) rfl ?_
    refine x_callS [.int (nI m), .int (nI 0)] rfl cs_N_placeOfBit.1 lk_6_214 cs_N_placeOfBit.2.1 rfl rfl (Nat.le_of_ble_eq_true rfl) (by decide) cs_N_placeOfBit.2.2 (c_placeOfBit u m 0 hm5 (by decide)) ?_
    rintro r x ⟨hr, hu⟩
    rw [hr, hu]
    clear hr hu r x
    exact x_ret (r := some (.int (spv (pb m 0 8 0 0)))) rfl rfl trivial ⟨by unfold spa; rw [hm], hfu⟩ rfl
  · refine run_ok 1 (c' := (24, [(0, .ref 0), (1, .int (nI 0)), (2, .int (spv (spb T)))], [.int (-1)], u)) rfl ?_
    exact x_ret (r := some (.int (-1))) rfl rfl trivial ⟨by unfold spa; rw [(spv_n1 (fun m hm => by have := spb_lt n9 hm; omega)).mp h20], hfu⟩ rfl

set_option maxHeartbeats 2000000 in
theorem c_spare_1 (S : ST) (T : TD) (hT : TR 5 T S) (hto : tok T) (hne : tne T ≤ 8) : EX me_N_spare 7 [.ref 0, .int (nI 1)] S (fun r u => r = some (.int (spa T (some 1))) ∧ fr CQ S u) := by
  refine EX.of mok_N_spare (Nat.le_of_ble_eq_true rfl) ?_
  obtain ⟨n8, n9, hbt, het, hht, hlo⟩ := id hto
  obtain ⟨t1, t2, t3, t4, t5, t6, t7, t8, t9, t10, t11⟩ := id hT
  refine run_ok 2 (c' := (2, [(0, .ref 0), (1, .int (nI 1))], [.int (-1), .int (nI 1)], S)) rfl ?_
  refine x_icmp_lt 10 rfl rfl (fun hn => absurd hn (by decide)) (fun h2 => ?_)
  refine run_ok 2 (c' := (7, [(0, .ref 0), (1, .int (nI 1))], [.int (nI 1), .int (nI 1)], S)) rfl ?_
  refine x_icmpN_le 13 rfl rfl (by omega) (by omega) (fun h7 => ?_) (fun hn => absurd (by decide) hn)
  refine run_ok 1 (c' := (14, [(0, .ref 0), (1, .int (nI 1))], [.ref 0], S)) rfl ?_
  refine x_callV [] rfl cv_N_spareBits.1 lk_6_205 cv_N_spareBits.2.1 cv_N_spareBits.2.2.1 rfl cv_N_spareBits.2.2.2.1 rfl rfl (Nat.le_of_ble_eq_true rfl) (by decide) cv_N_spareBits.2.2.2.2 (c_spareBits S T hT hto hne) ?_
  rintro r u ⟨hr, hfu⟩
  rw [hr]
  clear hr r
  refine run_ok 3 (c' := (20, [(0, .ref 0), (1, .int (nI 1)), (2, .int (spv (spb T)))], [.int (-1), .int (spv (spb T))], u)) rfl ?_
  refine x_icmp_ne 25 rfl rfl (fun h20 => ?_) (fun h20 => ?_)
  · have hm : ∃ m, spb T = some m := by
      cases hsp : spb T with
      | none => exact absurd (by rw [hsp]; rfl) h20
      | some m => exact ⟨m, rfl⟩
    obtain ⟨m, hm⟩ := hm
    have hm5 := spb_lt n9 hm
    rw [hm]
    rw [show spv (some m) = nI m from rfl]
    refine run_ok 2 (c' := (27, [(0, .ref 0), (1, .int (nI 1)), (2, .int (nI m))], [.int (-1), .int (nI 1)], u)) rfl ?_
    refine x_icmp_ne 37 rfl rfl (fun h27 => ?_) (fun hn => absurd hn (by decide))
    refine run_ok 2 (c' := (39, [(0, .ref 0), (1, .int (nI 1)), (2, .int (nI m))], [.int (nI 1), .int (nI m)], u)) rfl ?_
    refine x_callS [.int (nI m), .int (nI 1)] rfl cs_N_placeOfBit.1 lk_6_214 cs_N_placeOfBit.2.1 rfl rfl (Nat.le_of_ble_eq_true rfl) (by decide) cs_N_placeOfBit.2.2 (c_placeOfBit u m 1 hm5 (by decide)) ?_
    rintro r x ⟨hr, hu⟩
    rw [hr, hu]
    clear hr hu r x
    exact x_ret (r := some (.int (spv (pb m 1 8 0 0)))) rfl rfl trivial ⟨by unfold spa; rw [hm], hfu⟩ rfl
  · refine run_ok 1 (c' := (24, [(0, .ref 0), (1, .int (nI 1)), (2, .int (spv (spb T)))], [.int (-1)], u)) rfl ?_
    exact x_ret (r := some (.int (-1))) rfl rfl trivial ⟨by unfold spa; rw [(spv_n1 (fun m hm => by have := spb_lt n9 hm; omega)).mp h20], hfu⟩ rfl

theorem c_spare_bad (S : ST) (x : Int32) (hbad : ¬ ((-1) ≤ x ∧ x ≤ nI 1)) : EX me_N_spare 7 [.ref 0, .int x] S (fun r u => r = some (.int (-2)) ∧ u = S) := by
  refine EX.of mok_N_spare (Nat.le_of_ble_eq_true rfl) ?_
  refine run_ok 2 (c' := (2, [(0, .ref 0), (1, .int x)], [.int (-1), .int x], S)) rfl ?_
  refine x_icmp_lt 10 rfl rfl (fun h2 => ?_) (fun h2 => ?_)
  · refine run_ok 1 (c' := (12, [(0, .ref 0), (1, .int x)], [.int (-2)], S)) rfl ?_
    exact x_ret (r := some (.int (-2))) rfl rfl trivial ⟨rfl, rfl⟩ rfl
  · refine run_ok 2 (c' := (7, [(0, .ref 0), (1, .int x)], [.int (nI 1), .int x], S)) rfl ?_
    refine x_icmp_le 13 rfl rfl (fun h7 => ?_) (fun h7 => ?_)
    · exact absurd ⟨Int32.not_lt.mp h2, h7⟩ hbad
    · refine run_ok 1 (c' := (12, [(0, .ref 0), (1, .int x)], [.int (-2)], S)) rfl ?_
      exact x_ret (r := some (.int (-2))) rfl rfl trivial ⟨rfl, rfl⟩ rfl

set_option maxHeartbeats 2000000 in
theorem c_never (S : ST) (T : TD) (hT : TR 5 T S) (hto : tok T) (hne : tne T ≤ 8) (G : SD) (hg : SR G S) (hgo : sok G) : EX me_N_never 6 [.ref 0] S (fun r u => r = some (.int (nI (bst (fun i => fitb (wlo T (2 ^ i)) (vo (wlo T (2 ^ i)) 24) G G.1) (tne T)))) ∧ fr CQ S u) := by
  refine EX.of mok_N_never (Nat.le_of_ble_eq_true rfl) ?_
  obtain ⟨n8, n9, hbt, het, hht, hlo⟩ := id hto
  obtain ⟨t1, t2, t3, t4, t5, t6, t7, t8, t9, t10, t11⟩ := id hT
  have H : ∀ i, i ≤ tne T → ∀ (v : ST) (l : Nat), TR 14 (wlo T l) v → fr CQ S v → BX me_N_never 6 none (fun r u => r = some (.int (nI (bst (fun i => fitb (wlo T (2 ^ i)) (vo (wlo T (2 ^ i)) 24) G G.1) (tne T)))) ∧ fr CQ S u) (15, [(0, .ref 0), (1, .int (nI (bst (fun i => fitb (wlo T (2 ^ i)) (vo (wlo T (2 ^ i)) 24) G G.1) i))), (2, .int (nI i))], [], v) := by
    refine loop_up (P := fun i => ∀ (v : ST) (l : Nat), TR 14 (wlo T l) v → fr CQ S v → BX me_N_never 6 none (fun r u => r = some (.int (nI (bst (fun i => fitb (wlo T (2 ^ i)) (vo (wlo T (2 ^ i)) 24) G G.1) (tne T)))) ∧ fr CQ S u) (15, [(0, .ref 0), (1, .int (nI (bst (fun i => fitb (wlo T (2 ^ i)) (vo (wlo T (2 ^ i)) 24) G G.1) i))), (2, .int (nI i))], [], v)) (tne T) ?_ ?_
    · intro v l hTl hfv
      have t10v : v.1 5 10 = nI (tne T) := by rw [hfv 5 (by decide)]; exact t10
      refine run_ok 4 (c' := (23, [(0, .ref 0), (1, .int (nI (bst (fun i => fitb (wlo T (2 ^ i)) (vo (wlo T (2 ^ i)) 24) G G.1) (tne T)))), (2, .int (nI (tne T)))], [.int (v.1 5 10), .int (nI (tne T))], v)) rfl ?_
      refine x_top (v' := nI (tne T)) t10v ?_
      refine x_icmpN_ge 55 rfl rfl (by omega) (by omega) (fun h23 => ?_) (fun hn => absurd (Nat.le_refl _) hn)
      refine run_ok 1 (c' := (56, [(0, .ref 0), (1, .int (nI (bst (fun i => fitb (wlo T (2 ^ i)) (vo (wlo T (2 ^ i)) 24) G G.1) (tne T)))), (2, .int (nI (tne T)))], [.int (nI (bst (fun i => fitb (wlo T (2 ^ i)) (vo (wlo T (2 ^ i)) 24) G G.1) (tne T)))], v)) rfl ?_
      exact x_ret (r := some (.int (nI (bst (fun i => fitb (wlo T (2 ^ i)) (vo (wlo T (2 ^ i)) 24) G G.1) (tne T))))) rfl rfl trivial ⟨rfl, hfv⟩ rfl
    · intro i hi ih v l hTl hfv
      have t10v : v.1 5 10 = nI (tne T) := by rw [hfv 5 (by decide)]; exact t10
      refine run_ok 4 (c' := (23, [(0, .ref 0), (1, .int (nI (bst (fun i => fitb (wlo T (2 ^ i)) (vo (wlo T (2 ^ i)) 24) G G.1) i))), (2, .int (nI i))], [.int (v.1 5 10), .int (nI i)], v)) rfl ?_
      refine x_top (v' := nI (tne T)) t10v ?_
      refine x_icmpN_ge 55 rfl rfl (by omega) (by omega) (fun hn => absurd hn (show ¬ tne T ≤ i by omega)) (fun h23 => ?_)
      refine run_ok 5 (c' := (33, [(0, .ref 0), (1, .int (nI (bst (fun i => fitb (wlo T (2 ^ i)) (vo (wlo T (2 ^ i)) 24) G G.1) i))), (2, .int (nI i))], [.int ((nI 1) <<< ((nI i) &&& 31)), .ref 14], v)) rfl ?_
      refine x_top (v' := nI (2 ^ i)) (sh1 (by omega)) ?_
      refine run_ok 1 (c' := (36, [(0, .ref 0), (1, .int (nI (bst (fun i => fitb (wlo T (2 ^ i)) (vo (wlo T (2 ^ i)) 24) G G.1) i))), (2, .int (nI i))], [], (pt v 14 11 (nI (2 ^ i))))) rfl ?_
      have hTm : TR 14 (wlo T (2 ^ i)) (pt v 14 11 (nI (2 ^ i))) := ⟨hTl.1, hTl.2.1, hTl.2.2.1, hTl.2.2.2.1, hTl.2.2.2.2.1, hTl.2.2.2.2.2.1, hTl.2.2.2.2.2.2.1, hTl.2.2.2.2.2.2.2.1, hTl.2.2.2.2.2.2.2.2.1, hTl.2.2.2.2.2.2.2.2.2.1, rfl⟩
      refine run_ok 1 (c' := (37, [(0, .ref 0), (1, .int (nI (bst (fun i => fitb (wlo T (2 ^ i)) (vo (wlo T (2 ^ i)) 24) G G.1) i))), (2, .int (nI i))], [.ref 0], (pt v 14 11 (nI (2 ^ i))))) rfl ?_
      refine x_callV [] rfl cv_N_trialComesOutSo.1 lk_6_226 cv_N_trialComesOutSo.2.1 cv_N_trialComesOutSo.2.2.1 rfl cv_N_trialComesOutSo.2.2.2.1 rfl rfl (Nat.le_of_ble_eq_true rfl) (by decide) cv_N_trialComesOutSo.2.2.2.2 (c_outSo (pt v 14 11 (nI (2 ^ i))) (wlo T (2 ^ i)) hTm (tok_wlo hto (p9 (by omega))) G (hg.keep (hfv.tr (fr.rf.pt (by decide))) (by decide)) hgo) ?_
      rintro r z ⟨hr, hTz, hCz, hfz⟩
      rw [hr]
      clear hr r
      refine x_ifB_eq 49 rfl rfl (fun h40 => ?_) (fun h40 => ?_)
      · refine run_ok 1 (c' := (52, [(0, .ref 0), (1, .int (nI (bst (fun i => fitb (wlo T (2 ^ i)) (vo (wlo T (2 ^ i)) 24) G G.1) i))), (2, .int (nI i + nI 1))], [], z)) rfl ?_
        rw [nI_add i 1]
        refine run_ok 1 (c' := (15, [(0, .ref 0), (1, .int (nI (bst (fun i => fitb (wlo T (2 ^ i)) (vo (wlo T (2 ^ i)) 24) G G.1) i))), (2, .int (nI (i + 1)))], [], z)) rfl ?_
        rw [show bst (fun i => fitb (wlo T (2 ^ i)) (vo (wlo T (2 ^ i)) 24) G G.1) (i + 1) = bst (fun i => fitb (wlo T (2 ^ i)) (vo (wlo T (2 ^ i)) 24) G G.1) i from bst_z (by simpa using h40)] at ih
        exact ih z _ hTz (hfv.tr ((fr.rf.pt (by decide)).tr (hfz.sub (by decide))))
      · refine run_ok 5 (c' := (48, [(0, .ref 0), (1, .int (nI (bst (fun i => fitb (wlo T (2 ^ i)) (vo (wlo T (2 ^ i)) 24) G G.1) i))), (2, .int (nI i))], [.int ((nI (bst (fun i => fitb (wlo T (2 ^ i)) (vo (wlo T (2 ^ i)) 24) G G.1) i)) ||| ((nI 1) <<< ((nI i) &&& 31)))], z)) rfl ?_
        refine x_top (v' := nI (bst (fun i => fitb (wlo T (2 ^ i)) (vo (wlo T (2 ^ i)) 24) G G.1) i + 1 * 2 ^ i)) (or_bit (bst_lt _ _) (by omega)) ?_
        refine run_ok 2 (c' := (52, [(0, .ref 0), (1, .int (nI (bst (fun i => fitb (wlo T (2 ^ i)) (vo (wlo T (2 ^ i)) 24) G G.1) i + 1 * 2 ^ i))), (2, .int (nI i + nI 1))], [], z)) rfl ?_
        rw [nI_add i 1]
        refine run_ok 1 (c' := (15, [(0, .ref 0), (1, .int (nI (bst (fun i => fitb (wlo T (2 ^ i)) (vo (wlo T (2 ^ i)) 24) G G.1) i + 1 * 2 ^ i))), (2, .int (nI (i + 1)))], [], z)) rfl ?_
        rw [show bst (fun i => fitb (wlo T (2 ^ i)) (vo (wlo T (2 ^ i)) 24) G G.1) (i + 1) = bst (fun i => fitb (wlo T (2 ^ i)) (vo (wlo T (2 ^ i)) 24) G G.1) i + 1 * 2 ^ i from bst_s h40] at ih
        exact ih z _ hTz (hfv.tr ((fr.rf.pt (by decide)).tr (hfz.sub (by decide))))
  refine run_ok 4 (c' := (8, [(0, .ref 0)], [.ref 5, .ref 14], S)) rfl ?_
  refine x_callV [.ref 5] rfl cv_T_become.1 lk_6_220 cv_T_become.2.1 cv_T_become.2.2.1 rfl cv_T_become.2.2.2.1 rfl rfl (Nat.le_of_ble_eq_true rfl) (by decide) cv_T_become.2.2.2.2 (c_become S T hT hto hne) ?_
  rintro r v1 ⟨hr, hTb, hfb, h2b⟩
  rw [hr]
  clear hr r
  refine run_ok 4 (c' := (15, [(0, .ref 0), (1, .int (nI 0)), (2, .int (nI 0))], [], v1)) rfl ?_
  exact H 0 (by omega) v1 (tlo T) hTb (hfb.sub (by decide))

set_option maxHeartbeats 2000000 in
theorem c_sort_bad (S : ST) (T : TD) (t9 : S.1 5 6 = nI (tnb T)) (x : Int32) (hbad : ¬ (0 ≤ x ∧ x < nI (tnb T))) : EX me_N_sort 6 [.ref 0, .int x] S (fun r u => r = some (.int ((-2))) ∧ u = S) := by
  refine EX.of mok_N_sort (Nat.le_of_ble_eq_true rfl) ?_
  refine run_ok 2 (c' := (2, [(0, .ref 0), (1, .int x)], [.int x, .ref 0], S)) rfl ?_
  refine x_callV [.int x] rfl cv_N_isBoat.1 lk_6_107 cv_N_isBoat.2.1 cv_N_isBoat.2.2.1 rfl cv_N_isBoat.2.2.2.1 rfl rfl (Nat.le_of_ble_eq_true rfl) (by decide) cv_N_isBoat.2.2.2.2 (c_isBoat S (x) (tnb T) t9) ?_
  rintro r u ⟨hr, hu⟩
  rw [hr, hu]
  clear hr hu r u
  refine x_ifB_ne 11 rfl rfl (fun h5 => ?_) (fun h5 => ?_)
  · exact absurd h5 hbad
  · refine run_ok 1 (c' := (10, [(0, .ref 0), (1, .int x)], [.int (-2)], S)) rfl ?_
    exact x_ret (r := some (.int (-2))) rfl rfl trivial ⟨rfl, rfl⟩ rfl

set_option maxHeartbeats 2000000 in
theorem c_sort_ok (S : ST) (T : TD) (hT : TR 5 T S) (hto : tok T) (hne : tne T ≤ 8) (G : SD) (hg : SR G S) (hgo : sok G) (k : Nat) (hk : k < tnb T) : EX me_N_sort 6 [.ref 0, .int (nI k)] S (fun r u => r = some (.int (nI (bst (fun i => fitb (wso T (upn (tso T) k i)) (vo (wso T (upn (tso T) k i)) 24) G G.1) 3))) ∧ fr CQ S u) := by
  refine EX.of mok_N_sort (Nat.le_of_ble_eq_true rfl) ?_
  obtain ⟨n8, n9, hbt, het, hht, hlo⟩ := id hto
  obtain ⟨t1, t2, t3, t4, t5, t6, t7, t8, t9, t10, t11⟩ := id hT
  have H : ∀ i, i ≤ 3 → ∀ (v : ST) (f : Nat → Nat), TR 14 (wso T f) v → (∀ j, j ≠ k → f j = tso T j) → fr CQ S v → BX me_N_sort 6 none (fun r u => r = some (.int (nI (bst (fun i => fitb (wso T (upn (tso T) k i)) (vo (wso T (upn (tso T) k i)) 24) G G.1) 3))) ∧ fr CQ S u) (26, [(0, .ref 0), (1, .int (nI k)), (2, .int (nI (bst (fun i => fitb (wso T (upn (tso T) k i)) (vo (wso T (upn (tso T) k i)) 24) G G.1) i))), (3, .int (nI i))], [], v) := by
    refine loop_up (P := fun i => ∀ (v : ST) (f : Nat → Nat), TR 14 (wso T f) v → (∀ j, j ≠ k → f j = tso T j) → fr CQ S v → BX me_N_sort 6 none (fun r u => r = some (.int (nI (bst (fun i => fitb (wso T (upn (tso T) k i)) (vo (wso T (upn (tso T) k i)) 24) G G.1) 3))) ∧ fr CQ S u) (26, [(0, .ref 0), (1, .int (nI k)), (2, .int (nI (bst (fun i => fitb (wso T (upn (tso T) k i)) (vo (wso T (upn (tso T) k i)) 24) G G.1) i))), (3, .int (nI i))], [], v)) 3 ?_ ?_
    · intro v f hTv hff hfv
      refine run_ok 2 (c' := (28, [(0, .ref 0), (1, .int (nI k)), (2, .int (nI (bst (fun i => fitb (wso T (upn (tso T) k i)) (vo (wso T (upn (tso T) k i)) 24) G G.1) 3))), (3, .int (nI 3))], [.int (nI 3), .int (nI 3)], v)) rfl ?_
      refine x_icmpN_ge 60 rfl rfl (by omega) (by omega) (fun h28 => ?_) (fun hn => absurd (Nat.le_refl _) hn)
      refine run_ok 1 (c' := (61, [(0, .ref 0), (1, .int (nI k)), (2, .int (nI (bst (fun i => fitb (wso T (upn (tso T) k i)) (vo (wso T (upn (tso T) k i)) 24) G G.1) 3))), (3, .int (nI 3))], [.int (nI (bst (fun i => fitb (wso T (upn (tso T) k i)) (vo (wso T (upn (tso T) k i)) 24) G G.1) 3))], v)) rfl ?_
      exact x_ret (r := some (.int (nI (bst (fun i => fitb (wso T (upn (tso T) k i)) (vo (wso T (upn (tso T) k i)) 24) G G.1) 3)))) rfl rfl trivial ⟨rfl, hfv⟩ rfl
    · intro i hi ih v f hTv hff hfv
      refine run_ok 2 (c' := (28, [(0, .ref 0), (1, .int (nI k)), (2, .int (nI (bst (fun i => fitb (wso T (upn (tso T) k i)) (vo (wso T (upn (tso T) k i)) 24) G G.1) i))), (3, .int (nI i))], [.int (nI 3), .int (nI i)], v)) rfl ?_
      refine x_icmpN_ge 60 rfl rfl (by omega) (by omega) (fun hn => absurd hn (show ¬ 3 ≤ i by omega)) (fun h28 => ?_)
      refine run_ok 5 (c' := (40, [(0, .ref 0), (1, .int (nI k)), (2, .int (nI (bst (fun i => fitb (wso T (upn (tso T) k i)) (vo (wso T (upn (tso T) k i)) 24) G G.1) i))), (3, .int (nI i))], [.int (nI i), .int (nI k), .ref 16], v)) rfl ?_
      refine x_isN rfl rfl (by decide) (by omega) ?_
      have hTw : TR 14 (wso T (upn (tso T) k i)) (pt v 16 k (nI i)) := ⟨hTv.1, (hTv.2.1.put).cg (fun j hj => by show upn (tso T) k i j = upn f k i j; unfold upn; split; rfl; exact (hff j (by assumption)).symm), hTv.2.2⟩
      refine run_ok 1 (c' := (42, [(0, .ref 0), (1, .int (nI k)), (2, .int (nI (bst (fun i => fitb (wso T (upn (tso T) k i)) (vo (wso T (upn (tso T) k i)) 24) G G.1) i))), (3, .int (nI i))], [.ref 0], (pt v 16 k (nI i)))) rfl ?_
      refine x_callV [] rfl cv_N_trialComesOutSo.1 lk_6_226 cv_N_trialComesOutSo.2.1 cv_N_trialComesOutSo.2.2.1 rfl cv_N_trialComesOutSo.2.2.2.1 rfl rfl (Nat.le_of_ble_eq_true rfl) (by decide) cv_N_trialComesOutSo.2.2.2.2 (c_outSo (pt v 16 k (nI i)) (wso T (upn (tso T) k i)) hTw (tok_wso hto (by omega)) G (hg.keep (hfv.tr (fr.rf.pt (by decide))) (by decide)) hgo) ?_
      rintro r z ⟨hr, hTz, hCz, hfz⟩
      rw [hr]
      clear hr r
      refine x_ifB_eq 54 rfl rfl (fun h45 => ?_) (fun h45 => ?_)
      · refine run_ok 1 (c' := (57, [(0, .ref 0), (1, .int (nI k)), (2, .int (nI (bst (fun i => fitb (wso T (upn (tso T) k i)) (vo (wso T (upn (tso T) k i)) 24) G G.1) i))), (3, .int (nI i + nI 1))], [], z)) rfl ?_
        rw [nI_add i 1]
        refine run_ok 1 (c' := (26, [(0, .ref 0), (1, .int (nI k)), (2, .int (nI (bst (fun i => fitb (wso T (upn (tso T) k i)) (vo (wso T (upn (tso T) k i)) 24) G G.1) i))), (3, .int (nI (i + 1)))], [], z)) rfl ?_
        rw [show bst (fun i => fitb (wso T (upn (tso T) k i)) (vo (wso T (upn (tso T) k i)) 24) G G.1) (i + 1) = bst (fun i => fitb (wso T (upn (tso T) k i)) (vo (wso T (upn (tso T) k i)) 24) G G.1) i from bst_z (by simpa using h45)] at ih
        exact ih z (upn (tso T) k i) hTz (fun j hj => upn_n hj) (hfv.tr ((fr.rf.pt (by decide)).tr (hfz.sub (by decide))))
      · refine run_ok 5 (c' := (53, [(0, .ref 0), (1, .int (nI k)), (2, .int (nI (bst (fun i => fitb (wso T (upn (tso T) k i)) (vo (wso T (upn (tso T) k i)) 24) G G.1) i))), (3, .int (nI i))], [.int ((nI (bst (fun i => fitb (wso T (upn (tso T) k i)) (vo (wso T (upn (tso T) k i)) 24) G G.1) i)) ||| ((nI 1) <<< ((nI i) &&& 31)))], z)) rfl ?_
        refine x_top (v' := nI (bst (fun i => fitb (wso T (upn (tso T) k i)) (vo (wso T (upn (tso T) k i)) 24) G G.1) i + 1 * 2 ^ i)) (or_bit (bst_lt _ _) (by omega)) ?_
        refine run_ok 2 (c' := (57, [(0, .ref 0), (1, .int (nI k)), (2, .int (nI (bst (fun i => fitb (wso T (upn (tso T) k i)) (vo (wso T (upn (tso T) k i)) 24) G G.1) i + 1 * 2 ^ i))), (3, .int (nI i + nI 1))], [], z)) rfl ?_
        rw [nI_add i 1]
        refine run_ok 1 (c' := (26, [(0, .ref 0), (1, .int (nI k)), (2, .int (nI (bst (fun i => fitb (wso T (upn (tso T) k i)) (vo (wso T (upn (tso T) k i)) 24) G G.1) i + 1 * 2 ^ i))), (3, .int (nI (i + 1)))], [], z)) rfl ?_
        rw [show bst (fun i => fitb (wso T (upn (tso T) k i)) (vo (wso T (upn (tso T) k i)) 24) G G.1) (i + 1) = bst (fun i => fitb (wso T (upn (tso T) k i)) (vo (wso T (upn (tso T) k i)) 24) G G.1) i + 1 * 2 ^ i from bst_s h45] at ih
        exact ih z (upn (tso T) k i) hTz (fun j hj => upn_n hj) (hfv.tr ((fr.rf.pt (by decide)).tr (hfz.sub (by decide))))
  refine run_ok 2 (c' := (2, [(0, .ref 0), (1, .int (nI k))], [.int (nI k), .ref 0], S)) rfl ?_
  refine x_callV [.int (nI k)] rfl cv_N_isBoat.1 lk_6_107 cv_N_isBoat.2.1 cv_N_isBoat.2.2.1 rfl cv_N_isBoat.2.2.2.1 rfl rfl (Nat.le_of_ble_eq_true rfl) (by decide) cv_N_isBoat.2.2.2.2 (c_isBoat S (nI k) (tnb T) t9) ?_
  rintro r u ⟨hr, hu⟩
  rw [hr, hu]
  clear hr hu r u
  refine x_ifB_ne 11 rfl rfl (fun h5 => ?_) (fun hn => absurd (inr_t hk (by omega)) hn)
  refine run_ok 4 (c' := (19, [(0, .ref 0), (1, .int (nI k))], [.ref 5, .ref 14], S)) rfl ?_
  refine x_callV [.ref 5] rfl cv_T_become.1 lk_6_220 cv_T_become.2.1 cv_T_become.2.2.1 rfl cv_T_become.2.2.2.1 rfl rfl (Nat.le_of_ble_eq_true rfl) (by decide) cv_T_become.2.2.2.2 (c_become S T hT hto hne) ?_
  rintro r v1 ⟨hr, hTb, hfb, h2b⟩
  rw [hr]
  clear hr r
  refine run_ok 4 (c' := (26, [(0, .ref 0), (1, .int (nI k)), (2, .int (nI 0)), (3, .int (nI 0))], [], v1)) rfl ?_
  exact H 0 (by omega) v1 (tso T) hTb (fun _ _ => rfl) (hfb.sub (by decide))

set_option maxHeartbeats 2000000 in
theorem c_seekHated (S : ST) (T : TD) (hT : TR 5 T S) (hto : tok T) (hne : tne T ≤ 8) (G : SD) (hg : SR G S) (hgo : sok G) (p q : Nat) (hp : p < 8) (hq : q < 8) : EX me_N_seekHated 6 [.ref 0, .int (nI p), .int (nI q)] S (fun r u => r = some (.int (nI (bst (fun i => fitb (wh T (upn (th T) (8 * p + q) i)) (vo (wh T (upn (th T) (8 * p + q) i)) 24) G G.1) 10))) ∧ rh u 47 10 (fun i => nro (nmb (wh T (upn (th T) (8 * p + q) i)) (vo (wh T (upn (th T) (8 * p + q) i)) 24) 23) (tnb T)) ∧ fr CQ S u) := by
  refine EX.of mok_N_seekHated (Nat.le_of_ble_eq_true rfl) ?_
  obtain ⟨n8, n9, hbt, het, hht, hlo⟩ := id hto
  obtain ⟨t1, t2, t3, t4, t5, t6, t7, t8, t9, t10, t11⟩ := id hT
  have H : ∀ i, i ≤ 10 → ∀ (v : ST) (f : Nat → Nat), TR 14 (wh T f) v → (∀ j, j ≠ 8 * p + q → f j = th T j) → rh v 47 i (fun i => nro (nmb (wh T (upn (th T) (8 * p + q) i)) (vo (wh T (upn (th T) (8 * p + q) i)) 24) 23) (tnb T)) → fr CQ S v → BX me_N_seekHated 6 none (fun r u => r = some (.int (nI (bst (fun i => fitb (wh T (upn (th T) (8 * p + q) i)) (vo (wh T (upn (th T) (8 * p + q) i)) 24) G G.1) 10))) ∧ rh u 47 10 (fun i => nro (nmb (wh T (upn (th T) (8 * p + q) i)) (vo (wh T (upn (th T) (8 * p + q) i)) 24) 23) (tnb T)) ∧ fr CQ S u) (16, [(0, .ref 0), (1, .int (nI p)), (2, .int (nI q)), (3, .int (nI (bst (fun i => fitb (wh T (upn (th T) (8 * p + q) i)) (vo (wh T (upn (th T) (8 * p + q) i)) 24) G G.1) i))), (4, .int (nI i))], [], v) := by
    refine loop_up (P := fun i => ∀ (v : ST) (f : Nat → Nat), TR 14 (wh T f) v → (∀ j, j ≠ 8 * p + q → f j = th T j) → rh v 47 i (fun i => nro (nmb (wh T (upn (th T) (8 * p + q) i)) (vo (wh T (upn (th T) (8 * p + q) i)) 24) 23) (tnb T)) → fr CQ S v → BX me_N_seekHated 6 none (fun r u => r = some (.int (nI (bst (fun i => fitb (wh T (upn (th T) (8 * p + q) i)) (vo (wh T (upn (th T) (8 * p + q) i)) 24) G G.1) 10))) ∧ rh u 47 10 (fun i => nro (nmb (wh T (upn (th T) (8 * p + q) i)) (vo (wh T (upn (th T) (8 * p + q) i)) 24) 23) (tnb T)) ∧ fr CQ S u) (16, [(0, .ref 0), (1, .int (nI p)), (2, .int (nI q)), (3, .int (nI (bst (fun i => fitb (wh T (upn (th T) (8 * p + q) i)) (vo (wh T (upn (th T) (8 * p + q) i)) 24) G G.1) i))), (4, .int (nI i))], [], v)) 10 ?_ ?_
    · intro v f hTv hff h47 hfv
      refine run_ok 2 (c' := (20, [(0, .ref 0), (1, .int (nI p)), (2, .int (nI q)), (3, .int (nI (bst (fun i => fitb (wh T (upn (th T) (8 * p + q) i)) (vo (wh T (upn (th T) (8 * p + q) i)) 24) G G.1) 10))), (4, .int (nI 10))], [.int (nI 9), .int (nI 10)], v)) rfl ?_
      refine x_icmpN_gt 72 rfl rfl (by omega) (by omega) (fun h20 => ?_) (fun hn => absurd (show 9 < 10 by decide) hn)
      refine run_ok 1 (c' := (73, [(0, .ref 0), (1, .int (nI p)), (2, .int (nI q)), (3, .int (nI (bst (fun i => fitb (wh T (upn (th T) (8 * p + q) i)) (vo (wh T (upn (th T) (8 * p + q) i)) 24) G G.1) 10))), (4, .int (nI 10))], [.int (nI (bst (fun i => fitb (wh T (upn (th T) (8 * p + q) i)) (vo (wh T (upn (th T) (8 * p + q) i)) 24) G G.1) 10))], v)) rfl ?_
      exact x_ret (r := some (.int (nI (bst (fun i => fitb (wh T (upn (th T) (8 * p + q) i)) (vo (wh T (upn (th T) (8 * p + q) i)) 24) G G.1) 10)))) rfl rfl trivial ⟨rfl, h47, hfv⟩ rfl
    · intro i hi ih v f hTv hff h47 hfv
      refine run_ok 2 (c' := (20, [(0, .ref 0), (1, .int (nI p)), (2, .int (nI q)), (3, .int (nI (bst (fun i => fitb (wh T (upn (th T) (8 * p + q) i)) (vo (wh T (upn (th T) (8 * p + q) i)) 24) G G.1) i))), (4, .int (nI i))], [.int (nI 9), .int (nI i)], v)) rfl ?_
      refine x_icmpN_gt 72 rfl rfl (by omega) (by omega) (fun hn => absurd hn (show ¬ 9 < i by omega)) (fun h20 => ?_)
      refine run_ok 5 (c' := (32, [(0, .ref 0), (1, .int (nI p)), (2, .int (nI q)), (3, .int (nI (bst (fun i => fitb (wh T (upn (th T) (8 * p + q) i)) (vo (wh T (upn (th T) (8 * p + q) i)) 24) G G.1) i))), (4, .int (nI i))], [.int (nI q), .int (nI p), .ref 15], v)) rfl ?_
      refine x_callS [.int (nI p), .int (nI q)] rfl cs_N_pair.1 lk_6_103 cs_N_pair.2.1 rfl rfl (Nat.le_of_ble_eq_true rfl) (by decide) cs_N_pair.2.2 (c_pair v (nI p) (nI q)) ?_
      rintro r x ⟨hr, hu⟩
      rw [hr, hu]
      clear hr hu r x
      refine x_top (v' := nI (8 * p + q)) (by rw [pk_mul, nI_add, Nat.mul_comm]) ?_
      refine run_ok 1 (c' := (37, [(0, .ref 0), (1, .int (nI p)), (2, .int (nI q)), (3, .int (nI (bst (fun i => fitb (wh T (upn (th T) (8 * p + q) i)) (vo (wh T (upn (th T) (8 * p + q) i)) 24) G G.1) i))), (4, .int (nI i))], [.int (nI i), .int (nI (8 * p + q)), .ref 15], v)) rfl ?_
      refine x_isN rfl rfl (by decide) (by omega) ?_
      have hTw : TR 14 (wh T (upn (th T) (8 * p + q) i)) (pt v 15 (8 * p + q) (nI i)) := ⟨(hTv.1.put).cg (fun j hj => by show upn (th T) (8 * p + q) i j = upn f (8 * p + q) i j; unfold upn; split; rfl; exact (hff j (by assumption)).symm), hTv.2⟩
      refine run_ok 1 (c' := (39, [(0, .ref 0), (1, .int (nI p)), (2, .int (nI q)), (3, .int (nI (bst (fun i => fitb (wh T (upn (th T) (8 * p + q) i)) (vo (wh T (upn (th T) (8 * p + q) i)) 24) G G.1) i))), (4, .int (nI i))], [.ref 0], (pt v 15 (8 * p + q) (nI i)))) rfl ?_
      refine x_callV [] rfl cv_N_trialComesOutSo.1 lk_6_226 cv_N_trialComesOutSo.2.1 cv_N_trialComesOutSo.2.2.1 rfl cv_N_trialComesOutSo.2.2.2.1 rfl rfl (Nat.le_of_ble_eq_true rfl) (by decide) cv_N_trialComesOutSo.2.2.2.2 (c_outSo (pt v 15 (8 * p + q) (nI i)) (wh T (upn (th T) (8 * p + q) i)) hTw (tok_wh hto (by omega)) G (hg.keep (hfv.tr (fr.rf.pt (by decide))) (by decide)) hgo) ?_
      rintro r z ⟨hr, hTz, hCz, hfz⟩
      rw [hr]
      clear hr r
      refine x_ifB_eq 52 rfl rfl (fun h42 => ?_) (fun h42 => ?_)
      · refine run_ok 5 (c' := (62, [(0, .ref 0), (1, .int (nI p)), (2, .int (nI q)), (3, .int (nI (bst (fun i => fitb (wh T (upn (th T) (8 * p + q) i)) (vo (wh T (upn (th T) (8 * p + q) i)) 24) G G.1) i))), (4, .int (nI i))], [.ref 23, .int (nI i), .ref 47], z)) rfl ?_
        refine x_callV [] rfl cv_V_nameRow.1 lk_6_366 cv_V_nameRow.2.1 cv_V_nameRow.2.2.1 rfl cv_V_nameRow.2.2.2.1 rfl rfl (Nat.le_of_ble_eq_true rfl) (by decide) cv_V_nameRow.2.2.2.2 (c_nameRow14 z (wh T (upn (th T) (8 * p + q) i)) (vo (wh T (upn (th T) (8 * p + q) i)) 24) _ hTz (tok_wh hto (by omega)) hCz (vk_vo (tok_wh hto (by omega)) 24 (by omega)).1) ?_
        rintro r x ⟨hr, hu⟩
        rw [hr, hu]
        clear hr hu r x
        refine x_isN rfl rfl (by decide) (by omega) ?_
        refine run_ok 1 (c' := (69, [(0, .ref 0), (1, .int (nI p)), (2, .int (nI q)), (3, .int (nI (bst (fun i => fitb (wh T (upn (th T) (8 * p + q) i)) (vo (wh T (upn (th T) (8 * p + q) i)) 24) G G.1) i))), (4, .int (nI i + nI 1))], [], (pt z 47 i (nI (nro (nmb (wh T (upn (th T) (8 * p + q) i)) (vo (wh T (upn (th T) (8 * p + q) i)) 24) 23) (tnb T)))))) rfl ?_
        rw [nI_add i 1]
        refine run_ok 1 (c' := (16, [(0, .ref 0), (1, .int (nI p)), (2, .int (nI q)), (3, .int (nI (bst (fun i => fitb (wh T (upn (th T) (8 * p + q) i)) (vo (wh T (upn (th T) (8 * p + q) i)) 24) G G.1) i))), (4, .int (nI (i + 1)))], [], (pt z 47 i (nI (nro (nmb (wh T (upn (th T) (8 * p + q) i)) (vo (wh T (upn (th T) (8 * p + q) i)) 24) 23) (tnb T)))))) rfl ?_
        rw [show bst (fun i => fitb (wh T (upn (th T) (8 * p + q) i)) (vo (wh T (upn (th T) (8 * p + q) i)) 24) G G.1) (i + 1) = bst (fun i => fitb (wh T (upn (th T) (8 * p + q) i)) (vo (wh T (upn (th T) (8 * p + q) i)) 24) G G.1) i from bst_z (by simpa using h42)] at ih
        refine ih _ (upn (th T) (8 * p + q) i) (show TR 14 (wh T (upn (th T) (8 * p + q) i)) (pt z 47 i _) from hTz.keep (ks := [47]) (fr.rf.pt (by decide)) (by decide)) (fun j hj => upn_n hj) (fun j hj => ?_) (hfv.tr (((fr.rf.pt (by decide)).tr (hfz.sub (by decide))).pt (by decide)))
        show upd (z.1 47) i _ j = _
        by_cases e : j = i
        · rw [e, upd_s]
        · rw [upd_n e, hfz 47 (by decide)]; exact h47 j (by omega)
      · refine run_ok 5 (c' := (51, [(0, .ref 0), (1, .int (nI p)), (2, .int (nI q)), (3, .int (nI (bst (fun i => fitb (wh T (upn (th T) (8 * p + q) i)) (vo (wh T (upn (th T) (8 * p + q) i)) 24) G G.1) i))), (4, .int (nI i))], [.int ((nI (bst (fun i => fitb (wh T (upn (th T) (8 * p + q) i)) (vo (wh T (upn (th T) (8 * p + q) i)) 24) G G.1) i)) ||| ((nI 1) <<< ((nI i) &&& 31)))], z)) rfl ?_
        refine x_top (v' := nI (bst (fun i => fitb (wh T (upn (th T) (8 * p + q) i)) (vo (wh T (upn (th T) (8 * p + q) i)) 24) G G.1) i + 1 * 2 ^ i)) (or_bit (bst_lt _ _) (by omega)) ?_
        refine run_ok 6 (c' := (62, [(0, .ref 0), (1, .int (nI p)), (2, .int (nI q)), (3, .int (nI (bst (fun i => fitb (wh T (upn (th T) (8 * p + q) i)) (vo (wh T (upn (th T) (8 * p + q) i)) 24) G G.1) i + 1 * 2 ^ i))), (4, .int (nI i))], [.ref 23, .int (nI i), .ref 47], z)) rfl ?_
        refine x_callV [] rfl cv_V_nameRow.1 lk_6_366 cv_V_nameRow.2.1 cv_V_nameRow.2.2.1 rfl cv_V_nameRow.2.2.2.1 rfl rfl (Nat.le_of_ble_eq_true rfl) (by decide) cv_V_nameRow.2.2.2.2 (c_nameRow14 z (wh T (upn (th T) (8 * p + q) i)) (vo (wh T (upn (th T) (8 * p + q) i)) 24) _ hTz (tok_wh hto (by omega)) hCz (vk_vo (tok_wh hto (by omega)) 24 (by omega)).1) ?_
        rintro r x ⟨hr, hu⟩
        rw [hr, hu]
        clear hr hu r x
        refine x_isN rfl rfl (by decide) (by omega) ?_
        refine run_ok 1 (c' := (69, [(0, .ref 0), (1, .int (nI p)), (2, .int (nI q)), (3, .int (nI (bst (fun i => fitb (wh T (upn (th T) (8 * p + q) i)) (vo (wh T (upn (th T) (8 * p + q) i)) 24) G G.1) i + 1 * 2 ^ i))), (4, .int (nI i + nI 1))], [], (pt z 47 i (nI (nro (nmb (wh T (upn (th T) (8 * p + q) i)) (vo (wh T (upn (th T) (8 * p + q) i)) 24) 23) (tnb T)))))) rfl ?_
        rw [nI_add i 1]
        refine run_ok 1 (c' := (16, [(0, .ref 0), (1, .int (nI p)), (2, .int (nI q)), (3, .int (nI (bst (fun i => fitb (wh T (upn (th T) (8 * p + q) i)) (vo (wh T (upn (th T) (8 * p + q) i)) 24) G G.1) i + 1 * 2 ^ i))), (4, .int (nI (i + 1)))], [], (pt z 47 i (nI (nro (nmb (wh T (upn (th T) (8 * p + q) i)) (vo (wh T (upn (th T) (8 * p + q) i)) 24) 23) (tnb T)))))) rfl ?_
        rw [show bst (fun i => fitb (wh T (upn (th T) (8 * p + q) i)) (vo (wh T (upn (th T) (8 * p + q) i)) 24) G G.1) (i + 1) = bst (fun i => fitb (wh T (upn (th T) (8 * p + q) i)) (vo (wh T (upn (th T) (8 * p + q) i)) 24) G G.1) i + 1 * 2 ^ i from bst_s h42] at ih
        refine ih _ (upn (th T) (8 * p + q) i) (show TR 14 (wh T (upn (th T) (8 * p + q) i)) (pt z 47 i _) from hTz.keep (ks := [47]) (fr.rf.pt (by decide)) (by decide)) (fun j hj => upn_n hj) (fun j hj => ?_) (hfv.tr (((fr.rf.pt (by decide)).tr (hfz.sub (by decide))).pt (by decide)))
        show upd (z.1 47) i _ j = _
        by_cases e : j = i
        · rw [e, upd_s]
        · rw [upd_n e, hfz 47 (by decide)]; exact h47 j (by omega)
  refine run_ok 4 (c' := (8, [(0, .ref 0), (1, .int (nI p)), (2, .int (nI q))], [.ref 5, .ref 14], S)) rfl ?_
  refine x_callV [.ref 5] rfl cv_T_become.1 lk_6_220 cv_T_become.2.1 cv_T_become.2.2.1 rfl cv_T_become.2.2.2.1 rfl rfl (Nat.le_of_ble_eq_true rfl) (by decide) cv_T_become.2.2.2.2 (c_become S T hT hto hne) ?_
  rintro r v1 ⟨hr, hTb, hfb, h2b⟩
  rw [hr]
  clear hr r
  refine run_ok 4 (c' := (16, [(0, .ref 0), (1, .int (nI p)), (2, .int (nI q)), (3, .int (nI 0)), (4, .int (nI 0))], [], v1)) rfl ?_
  exact H 0 (by omega) v1 (th T) hTb (fun _ _ => rfl) (fun j hj => absurd hj (Nat.not_lt_zero _)) (hfb.sub (by decide))

set_option maxHeartbeats 2000000 in
theorem c_hated_bad (S : ST) (x y : Int32) (hbad : ¬ ((0 ≤ x ∧ x < nI 8) ∧ (0 ≤ y ∧ y < nI 8) ∧ ¬ x = y)) : EX me_N_hated 7 [.ref 0, .int x, .int y] S (fun r u => r = some (.int ((-2))) ∧ u = S) := by
  refine EX.of mok_N_hated (Nat.le_of_ble_eq_true rfl) ?_
  refine run_ok 2 (c' := (2, [(0, .ref 0), (1, .int x), (2, .int y)], [.int y, .int x], S)) rfl ?_
  refine x_callS [.int x, .int y] rfl cs_N_areTwo.1 lk_6_97 cs_N_areTwo.2.1 rfl rfl (Nat.le_of_ble_eq_true rfl) (by decide) cs_N_areTwo.2.2 (c_areTwo S (x) (y)) ?_
  rintro r u ⟨hr, hu⟩
  rw [hr, hu]
  clear hr hu r u
  refine x_ifB_eq 17 rfl rfl (fun h5 => ?_) (fun h5 => ?_)
  · refine run_ok 1 (c' := (19, [(0, .ref 0), (1, .int x), (2, .int y)], [.int (-2)], S)) rfl ?_
    exact x_ret (r := some (.int (-2))) rfl rfl trivial ⟨rfl, rfl⟩ rfl
  · exact absurd h5 hbad

set_option maxHeartbeats 2000000 in
theorem c_hated_ok (S : ST) (T : TD) (hT : TR 5 T S) (hto : tok T) (hne : tne T ≤ 8) (G : SD) (hg : SR G S) (hgo : sok G) (p q : Nat) (hp : p < 8) (hq : q < 8) (hpq : p ≠ q) : EX me_N_hated 7 [.ref 0, .int (nI p), .int (nI q)] S (fun r u => r = some (.int (nI (bst (fun i => fitb (wh T (upn (th T) (8 * p + q) i)) (vo (wh T (upn (th T) (8 * p + q) i)) 24) G G.1) 10))) ∧ fr CQ S u) := by
  refine EX.of mok_N_hated (Nat.le_of_ble_eq_true rfl) ?_
  obtain ⟨n8, n9, hbt, het, hht, hlo⟩ := id hto
  obtain ⟨t1, t2, t3, t4, t5, t6, t7, t8, t9, t10, t11⟩ := id hT
  refine run_ok 2 (c' := (2, [(0, .ref 0), (1, .int (nI p)), (2, .int (nI q))], [.int (nI q), .int (nI p)], S)) rfl ?_
  refine x_callS [.int (nI p), .int (nI q)] rfl cs_N_areTwo.1 lk_6_97 cs_N_areTwo.2.1 rfl rfl (Nat.le_of_ble_eq_true rfl) (by decide) cs_N_areTwo.2.2 (c_areTwo S (nI p) (nI q)) ?_
  rintro r u ⟨hr, hu⟩
  rw [hr, hu]
  clear hr hu r u
  refine x_ifB_eq 17 rfl rfl (fun hn => absurd hn (fun z => z (two_t hp hq hpq))) (fun h5 => ?_)
  refine run_ok 3 (c' := (11, [(0, .ref 0), (1, .int (nI p)), (2, .int (nI q))], [.int (nI q), .int (nI p), .ref 0], S)) rfl ?_
  refine x_callV [.int (nI p), .int (nI q)] rfl cv_N_seekHated.1 lk_6_229 cv_N_seekHated.2.1 cv_N_seekHated.2.2.1 rfl cv_N_seekHated.2.2.2.1 rfl rfl (Nat.le_of_ble_eq_true rfl) (by decide) cv_N_seekHated.2.2.2.2 (c_seekHated S T hT hto hne G hg hgo p q hp hq) ?_
  rintro r u ⟨hr, h47, hfu⟩
  rw [hr]
  clear hr r
  refine run_ok 1 (c' := (19, [(0, .ref 0), (1, .int (nI p)), (2, .int (nI q))], [.int (nI (bst (fun i => fitb (wh T (upn (th T) (8 * p + q) i)) (vo (wh T (upn (th T) (8 * p + q) i)) 24) G G.1) 10))], u)) rfl ?_
  exact x_ret (r := some (.int (nI (bst (fun i => fitb (wh T (upn (th T) (8 * p + q) i)) (vo (wh T (upn (th T) (8 * p + q) i)) 24) G G.1) 10)))) rfl rfl trivial ⟨rfl, hfu⟩ rfl


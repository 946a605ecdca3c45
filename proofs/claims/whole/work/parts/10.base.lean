/-! rows for natural numbers and truth values -/
def b2 (p : Prop) [Decidable p] : Int32 := if p then 1 else 0
theorem b2_01 (p : Prop) [Decidable p] : b2 p = 0 ∨ b2 p = 1 := by unfold b2; split; exact Or.inr rfl; exact Or.inl rfl
theorem b2_t {p : Prop} [Decidable p] (h : p) : b2 p = 1 := if_pos h
theorem b2_f {p : Prop} [Decidable p] (h : ¬ p) : b2 p = 0 := if_neg h
theorem b2_0 (p : Prop) [Decidable p] : b2 p = 0 ↔ ¬ p := by
  unfold b2
  split
  · rename_i h
    exact ⟨fun e => absurd e (by decide), fun e => absurd h e⟩
  · rename_i h
    exact ⟨fun _ => h, fun _ => rfl⟩
theorem b2_1 (p : Prop) [Decidable p] : b2 p = 1 ↔ p := by
  unfold b2
  split
  · rename_i h
    exact ⟨fun _ => h, fun _ => rfl⟩
  · rename_i h
    exact ⟨fun e => absurd e (by decide), fun e => absurd e h⟩
theorem b2_c {p q : Prop} [Decidable p] [Decidable q] (h : p ↔ q) : b2 p = b2 q := by
  unfold b2
  by_cases hp : p
  · rw [if_pos hp, if_pos (h.mp hp)]
  · rw [if_neg hp, if_neg (fun z => hp (h.mpr z))]
theorem nI_eqI {a b : Nat} (ha : a < 2147483648) (hb : b < 2147483648) : nI a = nI b ↔ a = b := nI_eq ha hb
theorem x_icmpN_lt {M : MI} {D : Nat} {sc : Option (Nat × (Nat → Int32))} {Q : Option Value → ST → Prop} {pc : Nat} {lv : List (Nat × Value)} {st : List Value} {S : ST} {a b : Nat} {off : Int} (tgt : Nat) (hf : fet M pc = some (.if_icmp .lt off)) (ht : (pc : Int) + off = (tgt : Int)) (ha : a < 2147483648) (hb : b < 2147483648) (kt : a < b → BX M D sc Q (tgt, lv, st, S)) (kf : ¬ a < b → BX M D sc Q (pc + 3, lv, st, S)) : BX M D sc Q (pc, lv, .int (nI b) :: .int (nI a) :: st, S) :=
  x_icmp_lt tgt hf ht (fun q => kt ((nI_ltI ha hb).mp q)) (fun q => kf (fun z => q ((nI_ltI ha hb).mpr z)))
theorem x_icmpN_ge {M : MI} {D : Nat} {sc : Option (Nat × (Nat → Int32))} {Q : Option Value → ST → Prop} {pc : Nat} {lv : List (Nat × Value)} {st : List Value} {S : ST} {a b : Nat} {off : Int} (tgt : Nat) (hf : fet M pc = some (.if_icmp .ge off)) (ht : (pc : Int) + off = (tgt : Int)) (ha : a < 2147483648) (hb : b < 2147483648) (kt : b ≤ a → BX M D sc Q (tgt, lv, st, S)) (kf : ¬ b ≤ a → BX M D sc Q (pc + 3, lv, st, S)) : BX M D sc Q (pc, lv, .int (nI b) :: .int (nI a) :: st, S) :=
  x_icmp_ge tgt hf ht (fun q => kt ((nI_leI hb ha).mp q)) (fun q => kf (fun z => q ((nI_leI hb ha).mpr z)))
theorem x_icmpN_gt {M : MI} {D : Nat} {sc : Option (Nat × (Nat → Int32))} {Q : Option Value → ST → Prop} {pc : Nat} {lv : List (Nat × Value)} {st : List Value} {S : ST} {a b : Nat} {off : Int} (tgt : Nat) (hf : fet M pc = some (.if_icmp .gt off)) (ht : (pc : Int) + off = (tgt : Int)) (ha : a < 2147483648) (hb : b < 2147483648) (kt : b < a → BX M D sc Q (tgt, lv, st, S)) (kf : ¬ b < a → BX M D sc Q (pc + 3, lv, st, S)) : BX M D sc Q (pc, lv, .int (nI b) :: .int (nI a) :: st, S) :=
  x_icmp_gt tgt hf ht (fun q => kt ((nI_ltI hb ha).mp q)) (fun q => kf (fun z => q ((nI_ltI hb ha).mpr z)))
theorem x_icmpN_le {M : MI} {D : Nat} {sc : Option (Nat × (Nat → Int32))} {Q : Option Value → ST → Prop} {pc : Nat} {lv : List (Nat × Value)} {st : List Value} {S : ST} {a b : Nat} {off : Int} (tgt : Nat) (hf : fet M pc = some (.if_icmp .le off)) (ht : (pc : Int) + off = (tgt : Int)) (ha : a < 2147483648) (hb : b < 2147483648) (kt : a ≤ b → BX M D sc Q (tgt, lv, st, S)) (kf : ¬ a ≤ b → BX M D sc Q (pc + 3, lv, st, S)) : BX M D sc Q (pc, lv, .int (nI b) :: .int (nI a) :: st, S) :=
  x_icmp_le tgt hf ht (fun q => kt ((nI_leI ha hb).mp q)) (fun q => kf (fun z => q ((nI_leI ha hb).mpr z)))
theorem x_icmpN_eq {M : MI} {D : Nat} {sc : Option (Nat × (Nat → Int32))} {Q : Option Value → ST → Prop} {pc : Nat} {lv : List (Nat × Value)} {st : List Value} {S : ST} {a b : Nat} {off : Int} (tgt : Nat) (hf : fet M pc = some (.if_icmp .eq off)) (ht : (pc : Int) + off = (tgt : Int)) (ha : a < 2147483648) (hb : b < 2147483648) (kt : a = b → BX M D sc Q (tgt, lv, st, S)) (kf : ¬ a = b → BX M D sc Q (pc + 3, lv, st, S)) : BX M D sc Q (pc, lv, .int (nI b) :: .int (nI a) :: st, S) :=
  x_icmp_eq tgt hf ht (fun q => kt ((nI_eqI ha hb).mp q)) (fun q => kf (fun z => q ((nI_eqI ha hb).mpr z)))
theorem x_icmpN_ne {M : MI} {D : Nat} {sc : Option (Nat × (Nat → Int32))} {Q : Option Value → ST → Prop} {pc : Nat} {lv : List (Nat × Value)} {st : List Value} {S : ST} {a b : Nat} {off : Int} (tgt : Nat) (hf : fet M pc = some (.if_icmp .ne off)) (ht : (pc : Int) + off = (tgt : Int)) (ha : a < 2147483648) (hb : b < 2147483648) (kt : ¬ a = b → BX M D sc Q (tgt, lv, st, S)) (kf : a = b → BX M D sc Q (pc + 3, lv, st, S)) : BX M D sc Q (pc, lv, .int (nI b) :: .int (nI a) :: st, S) :=
  x_icmp_ne tgt hf ht (fun q => kt (fun z => q ((nI_eqI ha hb).mpr z))) (fun q => kf ((nI_eqI ha hb).mp q))
theorem x_ifN_lt {M : MI} {D : Nat} {sc : Option (Nat × (Nat → Int32))} {Q : Option Value → ST → Prop} {pc : Nat} {lv : List (Nat × Value)} {st : List Value} {S : ST} {a : Nat} {off : Int} (tgt : Nat) (hf : fet M pc = some (.ifCond .lt off)) (ht : (pc : Int) + off = (tgt : Int)) (ha : a < 2147483648) (kt : a < 0 → BX M D sc Q (tgt, lv, st, S)) (kf : ¬ a < 0 → BX M D sc Q (pc + 3, lv, st, S)) : BX M D sc Q (pc, lv, .int (nI a) :: st, S) :=
  x_if_lt tgt hf ht (fun q => kt ((nI_ltI ha (by decide : (0 : Nat) < 2147483648)).mp q)) (fun q => kf (fun z => q ((nI_ltI ha (by decide : (0 : Nat) < 2147483648)).mpr z)))
theorem x_ifN_ge {M : MI} {D : Nat} {sc : Option (Nat × (Nat → Int32))} {Q : Option Value → ST → Prop} {pc : Nat} {lv : List (Nat × Value)} {st : List Value} {S : ST} {a : Nat} {off : Int} (tgt : Nat) (hf : fet M pc = some (.ifCond .ge off)) (ht : (pc : Int) + off = (tgt : Int)) (ha : a < 2147483648) (kt : 0 ≤ a → BX M D sc Q (tgt, lv, st, S)) (kf : ¬ 0 ≤ a → BX M D sc Q (pc + 3, lv, st, S)) : BX M D sc Q (pc, lv, .int (nI a) :: st, S) :=
  x_if_ge tgt hf ht (fun q => kt ((nI_leI (by decide : (0 : Nat) < 2147483648) ha).mp q)) (fun q => kf (fun z => q ((nI_leI (by decide : (0 : Nat) < 2147483648) ha).mpr z)))
theorem x_ifN_gt {M : MI} {D : Nat} {sc : Option (Nat × (Nat → Int32))} {Q : Option Value → ST → Prop} {pc : Nat} {lv : List (Nat × Value)} {st : List Value} {S : ST} {a : Nat} {off : Int} (tgt : Nat) (hf : fet M pc = some (.ifCond .gt off)) (ht : (pc : Int) + off = (tgt : Int)) (ha : a < 2147483648) (kt : 0 < a → BX M D sc Q (tgt, lv, st, S)) (kf : ¬ 0 < a → BX M D sc Q (pc + 3, lv, st, S)) : BX M D sc Q (pc, lv, .int (nI a) :: st, S) :=
  x_if_gt tgt hf ht (fun q => kt ((nI_ltI (by decide : (0 : Nat) < 2147483648) ha).mp q)) (fun q => kf (fun z => q ((nI_ltI (by decide : (0 : Nat) < 2147483648) ha).mpr z)))
theorem x_ifN_le {M : MI} {D : Nat} {sc : Option (Nat × (Nat → Int32))} {Q : Option Value → ST → Prop} {pc : Nat} {lv : List (Nat × Value)} {st : List Value} {S : ST} {a : Nat} {off : Int} (tgt : Nat) (hf : fet M pc = some (.ifCond .le off)) (ht : (pc : Int) + off = (tgt : Int)) (ha : a < 2147483648) (kt : a ≤ 0 → BX M D sc Q (tgt, lv, st, S)) (kf : ¬ a ≤ 0 → BX M D sc Q (pc + 3, lv, st, S)) : BX M D sc Q (pc, lv, .int (nI a) :: st, S) :=
  x_if_le tgt hf ht (fun q => kt ((nI_leI ha (by decide : (0 : Nat) < 2147483648)).mp q)) (fun q => kf (fun z => q ((nI_leI ha (by decide : (0 : Nat) < 2147483648)).mpr z)))
theorem x_ifN_eq {M : MI} {D : Nat} {sc : Option (Nat × (Nat → Int32))} {Q : Option Value → ST → Prop} {pc : Nat} {lv : List (Nat × Value)} {st : List Value} {S : ST} {a : Nat} {off : Int} (tgt : Nat) (hf : fet M pc = some (.ifCond .eq off)) (ht : (pc : Int) + off = (tgt : Int)) (ha : a < 2147483648) (kt : a = 0 → BX M D sc Q (tgt, lv, st, S)) (kf : ¬ a = 0 → BX M D sc Q (pc + 3, lv, st, S)) : BX M D sc Q (pc, lv, .int (nI a) :: st, S) :=
  x_if_eq tgt hf ht (fun q => kt ((nI_eqI ha (by decide : (0 : Nat) < 2147483648)).mp q)) (fun q => kf (fun z => q ((nI_eqI ha (by decide : (0 : Nat) < 2147483648)).mpr z)))
theorem x_ifN_ne {M : MI} {D : Nat} {sc : Option (Nat × (Nat → Int32))} {Q : Option Value → ST → Prop} {pc : Nat} {lv : List (Nat × Value)} {st : List Value} {S : ST} {a : Nat} {off : Int} (tgt : Nat) (hf : fet M pc = some (.ifCond .ne off)) (ht : (pc : Int) + off = (tgt : Int)) (ha : a < 2147483648) (kt : ¬ a = 0 → BX M D sc Q (tgt, lv, st, S)) (kf : a = 0 → BX M D sc Q (pc + 3, lv, st, S)) : BX M D sc Q (pc, lv, .int (nI a) :: st, S) :=
  x_if_ne tgt hf ht (fun q => kt (fun z => q ((nI_eqI ha (by decide : (0 : Nat) < 2147483648)).mpr z))) (fun q => kf ((nI_eqI ha (by decide : (0 : Nat) < 2147483648)).mp q))
theorem x_ifB_eq {M : MI} {D : Nat} {sc : Option (Nat × (Nat → Int32))} {Q : Option Value → ST → Prop} {pc : Nat} {lv : List (Nat × Value)} {st : List Value} {S : ST} {p : Prop} [Decidable p] {off : Int} (tgt : Nat) (hf : fet M pc = some (.ifCond .eq off)) (ht : (pc : Int) + off = (tgt : Int)) (kt : ¬ p → BX M D sc Q (tgt, lv, st, S)) (kf : p → BX M D sc Q (pc + 3, lv, st, S)) : BX M D sc Q (pc, lv, .int (b2 p) :: st, S) :=
  x_if_eq tgt hf ht (fun q => kt ((b2_0 p).mp q)) (fun q => kf (Decidable.not_not.mp (fun z => q ((b2_0 p).mpr z))))
theorem x_ifB_ne {M : MI} {D : Nat} {sc : Option (Nat × (Nat → Int32))} {Q : Option Value → ST → Prop} {pc : Nat} {lv : List (Nat × Value)} {st : List Value} {S : ST} {p : Prop} [Decidable p] {off : Int} (tgt : Nat) (hf : fet M pc = some (.ifCond .ne off)) (ht : (pc : Int) + off = (tgt : Int)) (kt : p → BX M D sc Q (tgt, lv, st, S)) (kf : ¬ p → BX M D sc Q (pc + 3, lv, st, S)) : BX M D sc Q (pc, lv, .int (b2 p) :: st, S) :=
  x_if_ne tgt hf ht (fun q => kt (Decidable.not_not.mp (fun z => q ((b2_0 p).mpr z)))) (fun q => kf ((b2_0 p).mp q))
theorem x_copyN {M : MI} {D : Nat} {sc : Option (Nat × (Nat → Int32))} {Q : Option Value → ST → Prop} {pc : Nat} {lv : List (Nat × Value)} {st : List Value} {S : ST} {x y z idx k0 k1 n0 n1 : Nat} {f0 f1 : List (Option Nat)} (hf : fet M pc = some (.invokestatic idx)) (hl : Cond.methodLink (mnm M).cls idx arraycopyName ∈ tbl) (hk0 : shp[k0]? = some (0, n0, f0)) (hk1 : shp[k1]? = some (0, n1, f1)) (b0 : n0 < 2147483648) (b1 : n1 < 2147483648) (g4 : x + z ≤ n0) (g5 : y + z ≤ n1) (hrest : (st.map fun v => v.category).sum ≤ 8) (hD : 1 ≤ D) (kk : BX M D sc Q (pc + 3, lv, st, rwr S k1 (va_cpy (S.1 k0) (S.1 k1) x y z))) : BX M D sc Q (pc, lv, .int (nI z) :: .int (nI y) :: .ref k1 :: .int (nI x) :: .ref k0 :: st, S) := by
  have ex : (nI x).toNatClampNeg = x := nI_clamp (by omega)
  have ey : (nI y).toNatClampNeg = y := nI_clamp (by omega)
  have ez : (nI z).toNatClampNeg = z := nI_clamp (by omega)
  refine x_copy hf hl wm_copy.1 wm_copy.2.1 wm_copy.2.2 hk0 hk1 (nI_pos (by omega)) (nI_pos (by omega)) (nI_pos (by omega)) (by rw [ex, ez]; exact g4) (by rw [ey, ez]; exact g5) hrest hD ?_
  rw [ex, ey, ez]
  exact kk

/-! rows: branches, arrays, calls, returns -/
theorem x_icmp_lt {M : MI} {D : Nat} {sc : Option (Nat × (Nat → Int32))} {Q : Option Value → ST → Prop} {pc : Nat} {lv : List (Nat × Value)} {st : List Value} {S : ST} {x y : Int32} {off : Int} (tgt : Nat) (hf : fet M pc = some (.if_icmp .lt off)) (ht : (pc : Int) + off = (tgt : Int)) (kt : x < y → BX M D sc Q (tgt, lv, st, S)) (kf : ¬ x < y → BX M D sc Q (pc + 3, lv, st, S)) : BX M D sc Q (pc, lv, .int y :: .int x :: st, S) := by
  intro p l e R s m args below meth c ad tc dC dI A H locs cells slots Qw ls C T hP hD hS hl
  obtain ⟨hx, hb, hml, hown, hts, hK, hA, hR, ⟨hcn, hck, hN⟩, hsc⟩ := id C
  have hd := fet_1 hck hf (Nat.succ_ne_zero _)
  exact lv_icmp_lt hx hb hd ht (fun q => kt q p l e R s m args below meth c ad tc dC dI A H locs cells slots Qw ls C T hP hD hS hl) (fun q => kf q p l e R s m args below meth c ad tc dC dI A H locs cells slots Qw ls C T hP hD hS hl)
theorem x_icmp_ge {M : MI} {D : Nat} {sc : Option (Nat × (Nat → Int32))} {Q : Option Value → ST → Prop} {pc : Nat} {lv : List (Nat × Value)} {st : List Value} {S : ST} {x y : Int32} {off : Int} (tgt : Nat) (hf : fet M pc = some (.if_icmp .ge off)) (ht : (pc : Int) + off = (tgt : Int)) (kt : y ≤ x → BX M D sc Q (tgt, lv, st, S)) (kf : ¬ y ≤ x → BX M D sc Q (pc + 3, lv, st, S)) : BX M D sc Q (pc, lv, .int y :: .int x :: st, S) := by
  intro p l e R s m args below meth c ad tc dC dI A H locs cells slots Qw ls C T hP hD hS hl
  obtain ⟨hx, hb, hml, hown, hts, hK, hA, hR, ⟨hcn, hck, hN⟩, hsc⟩ := id C
  have hd := fet_1 hck hf (Nat.succ_ne_zero _)
  exact lv_icmp_ge hx hb hd ht (fun q => kt q p l e R s m args below meth c ad tc dC dI A H locs cells slots Qw ls C T hP hD hS hl) (fun q => kf q p l e R s m args below meth c ad tc dC dI A H locs cells slots Qw ls C T hP hD hS hl)
theorem x_icmp_gt {M : MI} {D : Nat} {sc : Option (Nat × (Nat → Int32))} {Q : Option Value → ST → Prop} {pc : Nat} {lv : List (Nat × Value)} {st : List Value} {S : ST} {x y : Int32} {off : Int} (tgt : Nat) (hf : fet M pc = some (.if_icmp .gt off)) (ht : (pc : Int) + off = (tgt : Int)) (kt : y < x → BX M D sc Q (tgt, lv, st, S)) (kf : ¬ y < x → BX M D sc Q (pc + 3, lv, st, S)) : BX M D sc Q (pc, lv, .int y :: .int x :: st, S) := by
  intro p l e R s m args below meth c ad tc dC dI A H locs cells slots Qw ls C T hP hD hS hl
  obtain ⟨hx, hb, hml, hown, hts, hK, hA, hR, ⟨hcn, hck, hN⟩, hsc⟩ := id C
  have hd := fet_1 hck hf (Nat.succ_ne_zero _)
  exact lv_icmp_gt hx hb hd ht (fun q => kt q p l e R s m args below meth c ad tc dC dI A H locs cells slots Qw ls C T hP hD hS hl) (fun q => kf q p l e R s m args below meth c ad tc dC dI A H locs cells slots Qw ls C T hP hD hS hl)
theorem x_icmp_le {M : MI} {D : Nat} {sc : Option (Nat × (Nat → Int32))} {Q : Option Value → ST → Prop} {pc : Nat} {lv : List (Nat × Value)} {st : List Value} {S : ST} {x y : Int32} {off : Int} (tgt : Nat) (hf : fet M pc = some (.if_icmp .le off)) (ht : (pc : Int) + off = (tgt : Int)) (kt : x ≤ y → BX M D sc Q (tgt, lv, st, S)) (kf : ¬ x ≤ y → BX M D sc Q (pc + 3, lv, st, S)) : BX M D sc Q (pc, lv, .int y :: .int x :: st, S) := by
  intro p l e R s m args below meth c ad tc dC dI A H locs cells slots Qw ls C T hP hD hS hl
  obtain ⟨hx, hb, hml, hown, hts, hK, hA, hR, ⟨hcn, hck, hN⟩, hsc⟩ := id C
  have hd := fet_1 hck hf (Nat.succ_ne_zero _)
  exact lv_icmp_le hx hb hd ht (fun q => kt q p l e R s m args below meth c ad tc dC dI A H locs cells slots Qw ls C T hP hD hS hl) (fun q => kf q p l e R s m args below meth c ad tc dC dI A H locs cells slots Qw ls C T hP hD hS hl)
theorem x_icmp_eq {M : MI} {D : Nat} {sc : Option (Nat × (Nat → Int32))} {Q : Option Value → ST → Prop} {pc : Nat} {lv : List (Nat × Value)} {st : List Value} {S : ST} {x y : Int32} {off : Int} (tgt : Nat) (hf : fet M pc = some (.if_icmp .eq off)) (ht : (pc : Int) + off = (tgt : Int)) (kt : x = y → BX M D sc Q (tgt, lv, st, S)) (kf : ¬ x = y → BX M D sc Q (pc + 3, lv, st, S)) : BX M D sc Q (pc, lv, .int y :: .int x :: st, S) := by
  intro p l e R s m args below meth c ad tc dC dI A H locs cells slots Qw ls C T hP hD hS hl
  obtain ⟨hx, hb, hml, hown, hts, hK, hA, hR, ⟨hcn, hck, hN⟩, hsc⟩ := id C
  have hd := fet_1 hck hf (Nat.succ_ne_zero _)
  exact lv_icmp_eq hx hb hd ht (fun q => kt q p l e R s m args below meth c ad tc dC dI A H locs cells slots Qw ls C T hP hD hS hl) (fun q => kf q p l e R s m args below meth c ad tc dC dI A H locs cells slots Qw ls C T hP hD hS hl)
theorem x_icmp_ne {M : MI} {D : Nat} {sc : Option (Nat × (Nat → Int32))} {Q : Option Value → ST → Prop} {pc : Nat} {lv : List (Nat × Value)} {st : List Value} {S : ST} {x y : Int32} {off : Int} (tgt : Nat) (hf : fet M pc = some (.if_icmp .ne off)) (ht : (pc : Int) + off = (tgt : Int)) (kt : ¬ x = y → BX M D sc Q (tgt, lv, st, S)) (kf : x = y → BX M D sc Q (pc + 3, lv, st, S)) : BX M D sc Q (pc, lv, .int y :: .int x :: st, S) := by
  intro p l e R s m args below meth c ad tc dC dI A H locs cells slots Qw ls C T hP hD hS hl
  obtain ⟨hx, hb, hml, hown, hts, hK, hA, hR, ⟨hcn, hck, hN⟩, hsc⟩ := id C
  have hd := fet_1 hck hf (Nat.succ_ne_zero _)
  exact lv_icmp_ne hx hb hd ht (fun q => kt q p l e R s m args below meth c ad tc dC dI A H locs cells slots Qw ls C T hP hD hS hl) (fun q => kf q p l e R s m args below meth c ad tc dC dI A H locs cells slots Qw ls C T hP hD hS hl)
theorem x_if_lt {M : MI} {D : Nat} {sc : Option (Nat × (Nat → Int32))} {Q : Option Value → ST → Prop} {pc : Nat} {lv : List (Nat × Value)} {st : List Value} {S : ST} {x : Int32} {off : Int} (tgt : Nat) (hf : fet M pc = some (.ifCond .lt off)) (ht : (pc : Int) + off = (tgt : Int)) (kt : x < 0 → BX M D sc Q (tgt, lv, st, S)) (kf : ¬ x < 0 → BX M D sc Q (pc + 3, lv, st, S)) : BX M D sc Q (pc, lv, .int x :: st, S) := by
  intro p l e R s m args below meth c ad tc dC dI A H locs cells slots Qw ls C T hP hD hS hl
  obtain ⟨hx, hb, hml, hown, hts, hK, hA, hR, ⟨hcn, hck, hN⟩, hsc⟩ := id C
  have hd := fet_1 hck hf (Nat.succ_ne_zero _)
  exact lv_if_lt hx hb hd ht (fun q => kt q p l e R s m args below meth c ad tc dC dI A H locs cells slots Qw ls C T hP hD hS hl) (fun q => kf q p l e R s m args below meth c ad tc dC dI A H locs cells slots Qw ls C T hP hD hS hl)
theorem x_if_ge {M : MI} {D : Nat} {sc : Option (Nat × (Nat → Int32))} {Q : Option Value → ST → Prop} {pc : Nat} {lv : List (Nat × Value)} {st : List Value} {S : ST} {x : Int32} {off : Int} (tgt : Nat) (hf : fet M pc = some (.ifCond .ge off)) (ht : (pc : Int) + off = (tgt : Int)) (kt : 0 ≤ x → BX M D sc Q (tgt, lv, st, S)) (kf : ¬ 0 ≤ x → BX M D sc Q (pc + 3, lv, st, S)) : BX M D sc Q (pc, lv, .int x :: st, S) := by
  intro p l e R s m args below meth c ad tc dC dI A H locs cells slots Qw ls C T hP hD hS hl
  obtain ⟨hx, hb, hml, hown, hts, hK, hA, hR, ⟨hcn, hck, hN⟩, hsc⟩ := id C
  have hd := fet_1 hck hf (Nat.succ_ne_zero _)
  exact lv_if_ge hx hb hd ht (fun q => kt q p l e R s m args below meth c ad tc dC dI A H locs cells slots Qw ls C T hP hD hS hl) (fun q => kf q p l e R s m args below meth c ad tc dC dI A H locs cells slots Qw ls C T hP hD hS hl)
theorem x_if_gt {M : MI} {D : Nat} {sc : Option (Nat × (Nat → Int32))} {Q : Option Value → ST → Prop} {pc : Nat} {lv : List (Nat × Value)} {st : List Value} {S : ST} {x : Int32} {off : Int} (tgt : Nat) (hf : fet M pc = some (.ifCond .gt off)) (ht : (pc : Int) + off = (tgt : Int)) (kt : 0 < x → BX M D sc Q (tgt, lv, st, S)) (kf : ¬ 0 < x → BX M D sc Q (pc + 3, lv, st, S)) : BX M D sc Q (pc, lv, .int x :: st, S) := by
  intro p l e R s m args below meth c ad tc dC dI A H locs cells slots Qw ls C T hP hD hS hl
  obtain ⟨hx, hb, hml, hown, hts, hK, hA, hR, ⟨hcn, hck, hN⟩, hsc⟩ := id C
  have hd := fet_1 hck hf (Nat.succ_ne_zero _)
  exact lv_if_gt hx hb hd ht (fun q => kt q p l e R s m args below meth c ad tc dC dI A H locs cells slots Qw ls C T hP hD hS hl) (fun q => kf q p l e R s m args below meth c ad tc dC dI A H locs cells slots Qw ls C T hP hD hS hl)
theorem x_if_le {M : MI} {D : Nat} {sc : Option (Nat × (Nat → Int32))} {Q : Option Value → ST → Prop} {pc : Nat} {lv : List (Nat × Value)} {st : List Value} {S : ST} {x : Int32} {off : Int} (tgt : Nat) (hf : fet M pc = some (.ifCond .le off)) (ht : (pc : Int) + off = (tgt : Int)) (kt : x ≤ 0 → BX M D sc Q (tgt, lv, st, S)) (kf : ¬ x ≤ 0 → BX M D sc Q (pc + 3, lv, st, S)) : BX M D sc Q (pc, lv, .int x :: st, S) := by
  intro p l e R s m args below meth c ad tc dC dI A H locs cells slots Qw ls C T hP hD hS hl
  obtain ⟨hx, hb, hml, hown, hts, hK, hA, hR, ⟨hcn, hck, hN⟩, hsc⟩ := id C
  have hd := fet_1 hck hf (Nat.succ_ne_zero _)
  exact lv_if_le hx hb hd ht (fun q => kt q p l e R s m args below meth c ad tc dC dI A H locs cells slots Qw ls C T hP hD hS hl) (fun q => kf q p l e R s m args below meth c ad tc dC dI A H locs cells slots Qw ls C T hP hD hS hl)
theorem x_if_eq {M : MI} {D : Nat} {sc : Option (Nat × (Nat → Int32))} {Q : Option Value → ST → Prop} {pc : Nat} {lv : List (Nat × Value)} {st : List Value} {S : ST} {x : Int32} {off : Int} (tgt : Nat) (hf : fet M pc = some (.ifCond .eq off)) (ht : (pc : Int) + off = (tgt : Int)) (kt : x = 0 → BX M D sc Q (tgt, lv, st, S)) (kf : ¬ x = 0 → BX M D sc Q (pc + 3, lv, st, S)) : BX M D sc Q (pc, lv, .int x :: st, S) := by
  intro p l e R s m args below meth c ad tc dC dI A H locs cells slots Qw ls C T hP hD hS hl
  obtain ⟨hx, hb, hml, hown, hts, hK, hA, hR, ⟨hcn, hck, hN⟩, hsc⟩ := id C
  have hd := fet_1 hck hf (Nat.succ_ne_zero _)
  exact lv_if_eq hx hb hd ht (fun q => kt q p l e R s m args below meth c ad tc dC dI A H locs cells slots Qw ls C T hP hD hS hl) (fun q => kf q p l e R s m args below meth c ad tc dC dI A H locs cells slots Qw ls C T hP hD hS hl)
theorem x_if_ne {M : MI} {D : Nat} {sc : Option (Nat × (Nat → Int32))} {Q : Option Value → ST → Prop} {pc : Nat} {lv : List (Nat × Value)} {st : List Value} {S : ST} {x : Int32} {off : Int} (tgt : Nat) (hf : fet M pc = some (.ifCond .ne off)) (ht : (pc : Int) + off = (tgt : Int)) (kt : ¬ x = 0 → BX M D sc Q (tgt, lv, st, S)) (kf : x = 0 → BX M D sc Q (pc + 3, lv, st, S)) : BX M D sc Q (pc, lv, .int x :: st, S) := by
  intro p l e R s m args below meth c ad tc dC dI A H locs cells slots Qw ls C T hP hD hS hl
  obtain ⟨hx, hb, hml, hown, hts, hK, hA, hR, ⟨hcn, hck, hN⟩, hsc⟩ := id C
  have hd := fet_1 hck hf (Nat.succ_ne_zero _)
  exact lv_if_ne hx hb hd ht (fun q => kt q p l e R s m args below meth c ad tc dC dI A H locs cells slots Qw ls C T hP hD hS hl) (fun q => kf q p l e R s m args below meth c ad tc dC dI A H locs cells slots Qw ls C T hP hD hS hl)
theorem x_iald {M : MI} {D : Nat} {sc : Option (Nat × (Nat → Int32))} {Q : Option Value → ST → Prop} {pc : Nat} {lv : List (Nat × Value)} {st : List Value} {S : ST} {k n : Nat} {fl : List (Option Nat)} {x : Int32} (hf : fet M pc = some .iaload) (hk : shp[k]? = some (0, n, fl)) (hin : vp_in x n) (kk : BX M D sc Q (pc + 1, lv, .int (S.1 k x.toNatClampNeg) :: st, S)) : BX M D sc Q (pc, lv, .int x :: .ref k :: st, S) := by
  intro p l e R s m args below meth c ad tc dC dI A H locs cells slots Qw ls C T hP hD hS hl
  obtain ⟨hx, hb, hml, hown, hts, hK, hA, hR, ⟨hcn, hck, hN⟩, hsc⟩ := id C
  have hd := fet_1 hck hf (Nat.succ_ne_zero _)
  exact va_iald hx hb hK hP k 0 (wld_at (ad := ad) (tc := tc) S hk) rfl hin hd (kk p l e R s m args below meth c ad tc dC dI A H locs cells slots Qw ls C T hP hD hS hl)
theorem x_zald {M : MI} {D : Nat} {sc : Option (Nat × (Nat → Int32))} {Q : Option Value → ST → Prop} {pc : Nat} {lv : List (Nat × Value)} {st : List Value} {S : ST} {k n : Nat} {fl : List (Option Nat)} {x : Int32} (hf : fet M pc = some .baload) (hk : shp[k]? = some (2, n, fl)) (hin : vp_in x n) (kk : BX M D sc Q (pc + 1, lv, .int (S.1 k x.toNatClampNeg) :: st, S)) : BX M D sc Q (pc, lv, .int x :: .ref k :: st, S) := by
  intro p l e R s m args below meth c ad tc dC dI A H locs cells slots Qw ls C T hP hD hS hl
  obtain ⟨hx, hb, hml, hown, hts, hK, hA, hR, ⟨hcn, hck, hN⟩, hsc⟩ := id C
  have hd := fet_1 hck hf (Nat.succ_ne_zero _)
  exact va_zald hx hb hK hP k 2 (wld_at (ad := ad) (tc := tc) S hk) rfl hin hd (kk p l e R s m args below meth c ad tc dC dI A H locs cells slots Qw ls C T hP hD hS hl)
theorem x_lald {M : MI} {D : Nat} {sc : Option (Nat × (Nat → Int32))} {Q : Option Value → ST → Prop} {pc : Nat} {lv : List (Nat × Value)} {st : List Value} {S : ST} {n : Nat} {fl : List (Option Nat)} {x : Int32} (hf : fet M pc = some .laload) (hk : shp[46]? = some (1, n, fl)) (hin : vp_in x n) (kk : BX M D sc Q (pc + 1, lv, .long (S.2.1 x.toNatClampNeg) :: st, S)) : BX M D sc Q (pc, lv, .int x :: .ref 46 :: st, S) := by
  intro p l e R s m args below meth c ad tc dC dI A H locs cells slots Qw ls C T hP hD hS hl
  obtain ⟨hx, hb, hml, hown, hts, hK, hA, hR, ⟨hcn, hck, hN⟩, hsc⟩ := id C
  have hd := fet_1 hck hf (Nat.succ_ne_zero _)
  exact va_lald hx hb hK hP 46 1 (wld_at (ad := ad) (tc := tc) S hk) rfl hin hd (kk p l e R s m args below meth c ad tc dC dI A H locs cells slots Qw ls C T hP hD hS hl)
theorem x_aald {M : MI} {D : Nat} {sc : Option (Nat × (Nat → Int32))} {Q : Option Value → ST → Prop} {pc : Nat} {lv : List (Nat × Value)} {st : List Value} {S : ST} {k n t : Nat} {fl : List (Option Nat)} {x : Int32} (hf : fet M pc = some .aaload) (hk : shp[k]? = some (3, n, fl)) (hin : vp_in x n) (hv : fl.getD x.toNatClampNeg none = some t) (kk : BX M D sc Q (pc + 1, lv, .ref t :: st, S)) : BX M D sc Q (pc, lv, .int x :: .ref k :: st, S) := by
  intro p l e R s m args below meth c ad tc dC dI A H locs cells slots Qw ls C T hP hD hS hl
  obtain ⟨hx, hb, hml, hown, hts, hK, hA, hR, ⟨hcn, hck, hN⟩, hsc⟩ := id C
  have hd := fet_1 hck hf (Nat.succ_ne_zero _)
  refine va_aldq hx hb hK hP k 3 (wld_at (ad := ad) (tc := tc) S hk) rfl hin hd ?_
  dsimp only
  rw [hv]
  exact kk p l e R s m args below meth c ad tc dC dI A H locs cells slots Qw ls C T hP hD hS hl
theorem x_iast {M : MI} {D : Nat} {sc : Option (Nat × (Nat → Int32))} {Q : Option Value → ST → Prop} {pc : Nat} {lv : List (Nat × Value)} {st : List Value} {S : ST} {k n : Nat} {fl : List (Option Nat)} {x v : Int32} (hf : fet M pc = some .iastore) (hk : shp[k]? = some (0, n, fl)) (hin : vp_in x n) (kk : BX M D sc Q (pc + 1, lv, st, pt S k x.toNatClampNeg v)) : BX M D sc Q (pc, lv, .int v :: .int x :: .ref k :: st, S) := by
  intro p l e R s m args below meth c ad tc dC dI A H locs cells slots Qw ls C T hP hD hS hl
  obtain ⟨hx, hb, hml, hown, hts, hK, hA, hR, ⟨hcn, hck, hN⟩, hsc⟩ := id C
  have hd := fet_1 hck hf (Nat.succ_ne_zero _)
  have he : (wld ad tc S).set k (ad k, .inl (tc 0, n, .inl (upd (S.1 k) x.toNatClampNeg v))) = wld ad tc (pt S k x.toNatClampNeg v) := wld_pt hk (by show (Sum.inl (tc 0, n, Sum.inl ((pt S k x.toNatClampNeg v).1 k)) : va_E) = _; rw [pt_at])
  refine va_iast hx hb hK hP hD hS k 0 (wld_at (ad := ad) (tc := tc) S hk) rfl hin hd (fun H1 locs1 hP1 hD1 hS1 => ?_)
  have hP2 : va_P (dC, dI) clss (wld ad tc (pt S k x.toNatClampNeg v)) H1 := by rw [← he]; exact hP1
  have hD2 : va_D A (wld ad tc (pt S k x.toNatClampNeg v)) := by rw [← he]; exact hD1
  exact kk p l e R s m args below meth c ad tc dC dI A H1 locs1 cells slots Qw ls C T hP2 hD2 hS1 hl
theorem x_zast {M : MI} {D : Nat} {sc : Option (Nat × (Nat → Int32))} {Q : Option Value → ST → Prop} {pc : Nat} {lv : List (Nat × Value)} {st : List Value} {S : ST} {k n : Nat} {fl : List (Option Nat)} {x v : Int32} (hf : fet M pc = some .bastore) (hk : shp[k]? = some (2, n, fl)) (hin : vp_in x n) (hz : vp_nar .boolean v = v) (kk : BX M D sc Q (pc + 1, lv, st, pt S k x.toNatClampNeg v)) : BX M D sc Q (pc, lv, .int v :: .int x :: .ref k :: st, S) := by
  intro p l e R s m args below meth c ad tc dC dI A H locs cells slots Qw ls C T hP hD hS hl
  obtain ⟨hx, hb, hml, hown, hts, hK, hA, hR, ⟨hcn, hck, hN⟩, hsc⟩ := id C
  have hd := fet_1 hck hf (Nat.succ_ne_zero _)
  have he : (wld ad tc S).set k (ad k, .inl (tc 2, n, .inl (upd (S.1 k) x.toNatClampNeg v))) = wld ad tc (pt S k x.toNatClampNeg v) := wld_pt hk (by show (Sum.inl (tc 2, n, Sum.inl ((pt S k x.toNatClampNeg v).1 k)) : va_E) = _; rw [pt_at])
  refine va_zast hx hb hK hP hD hS k 2 (wld_at (ad := ad) (tc := tc) S hk) rfl hin hd (fun H1 locs1 hP1 hD1 hS1 => ?_)
  rw [hz] at hP1 hD1
  have hP2 : va_P (dC, dI) clss (wld ad tc (pt S k x.toNatClampNeg v)) H1 := by rw [← he]; exact hP1
  have hD2 : va_D A (wld ad tc (pt S k x.toNatClampNeg v)) := by rw [← he]; exact hD1
  exact kk p l e R s m args below meth c ad tc dC dI A H1 locs1 cells slots Qw ls C T hP2 hD2 hS1 hl
theorem x_last {M : MI} {D : Nat} {sc : Option (Nat × (Nat → Int32))} {Q : Option Value → ST → Prop} {pc : Nat} {lv : List (Nat × Value)} {st : List Value} {S : ST} {n : Nat} {fl : List (Option Nat)} {x : Int32} {v : Int64} (hf : fet M pc = some .lastore) (hk : shp[46]? = some (1, n, fl)) (hin : vp_in x n) (kk : BX M D sc Q (pc + 1, lv, st, ptl S x.toNatClampNeg v)) : BX M D sc Q (pc, lv, .long v :: .int x :: .ref 46 :: st, S) := by
  intro p l e R s m args below meth c ad tc dC dI A H locs cells slots Qw ls C T hP hD hS hl
  obtain ⟨hx, hb, hml, hown, hts, hK, hA, hR, ⟨hcn, hck, hN⟩, hsc⟩ := id C
  have hd := fet_1 hck hf (Nat.succ_ne_zero _)
  have he : (wld ad tc S).set 46 (ad 46, .inl (tc 1, n, .inr (.inl (vp_updL S.2.1 x.toNatClampNeg v)))) = wld ad tc (ptl S x.toNatClampNeg v) := wld_ptl hk rfl
  refine va_last hx hb hK hP hD hS 46 1 (wld_at (ad := ad) (tc := tc) S hk) rfl hin hd (fun H1 locs1 hP1 hD1 hS1 => ?_)
  have hP2 : va_P (dC, dI) clss (wld ad tc (ptl S x.toNatClampNeg v)) H1 := by rw [← he]; exact hP1
  have hD2 : va_D A (wld ad tc (ptl S x.toNatClampNeg v)) := by rw [← he]; exact hD1
  exact kk p l e R s m args below meth c ad tc dC dI A H1 locs1 cells slots Qw ls C T hP2 hD2 hS1 hl
theorem x_alen0 {M : MI} {D : Nat} {sc : Option (Nat × (Nat → Int32))} {Q : Option Value → ST → Prop} {pc : Nat} {lv : List (Nat × Value)} {st : List Value} {S : ST} {k n : Nat} {fl : List (Option Nat)} (hf : fet M pc = some .arraylength) (hk : shp[k]? = some (0, n, fl)) (kk : BX M D sc Q (pc + 1, lv, .int (nI n) :: st, S)) : BX M D sc Q (pc, lv, .ref k :: st, S) := by
  intro p l e R s m args below meth c ad tc dC dI A H locs cells slots Qw ls C T hP hD hS hl
  obtain ⟨hx, hb, hml, hown, hts, hK, hA, hR, ⟨hcn, hck, hN⟩, hsc⟩ := id C
  have hd := fet_1 hck hf (Nat.succ_ne_zero _)
  exact va_alen hx hb hK hP k 0 (wld_at (ad := ad) (tc := tc) S hk) rfl rfl hd (kk p l e R s m args below meth c ad tc dC dI A H locs cells slots Qw ls C T hP hD hS hl)
theorem x_alen1 {M : MI} {D : Nat} {sc : Option (Nat × (Nat → Int32))} {Q : Option Value → ST → Prop} {pc : Nat} {lv : List (Nat × Value)} {st : List Value} {S : ST} {k n : Nat} {fl : List (Option Nat)} (hf : fet M pc = some .arraylength) (hk : shp[k]? = some (1, n, fl)) (kk : BX M D sc Q (pc + 1, lv, .int (nI n) :: st, S)) : BX M D sc Q (pc, lv, .ref k :: st, S) := by
  intro p l e R s m args below meth c ad tc dC dI A H locs cells slots Qw ls C T hP hD hS hl
  obtain ⟨hx, hb, hml, hown, hts, hK, hA, hR, ⟨hcn, hck, hN⟩, hsc⟩ := id C
  have hd := fet_1 hck hf (Nat.succ_ne_zero _)
  exact va_alen hx hb hK hP k 1 (wld_at (ad := ad) (tc := tc) S hk) rfl rfl hd (kk p l e R s m args below meth c ad tc dC dI A H locs cells slots Qw ls C T hP hD hS hl)
theorem x_sld {M : MI} {D : Nat} {L : Nat} {xs : Nat → Int32} {Q : Option Value → ST → Prop} {pc : Nat} {lv : List (Nat × Value)} {st : List Value} {S : ST} {x : Int32} (hf : fet M pc = some .iaload) (hin : vp_in x L) (kk : BX M D (some (L, xs)) Q (pc + 1, lv, .int (xs x.toNatClampNeg) :: st, S)) : BX M D (some (L, xs)) Q (pc, lv, .int x :: .ref 999 :: st, S) := by
  intro p l e R s m args below meth c ad tc dC dI A H locs cells slots Qw ls C T hP hD hS hl
  obtain ⟨hx, hb, hml, hown, hts, hK, hA, hR, ⟨hcn, hck, hN⟩, hsc⟩ := id C
  have hd := fet_1 hck hf (Nat.succ_ne_zero _)
  obtain ⟨hX, hbl, hbA⟩ := hsc L xs rfl
  exact va_sld hx hb hX hbl hbA hS hin hd (kk p l e R s m args below meth c ad tc dC dI A H locs cells slots Qw ls C T hP hD hS hl)
theorem x_slen {M : MI} {D : Nat} {L : Nat} {xs : Nat → Int32} {Q : Option Value → ST → Prop} {pc : Nat} {lv : List (Nat × Value)} {st : List Value} {S : ST} (hf : fet M pc = some .arraylength) (kk : BX M D (some (L, xs)) Q (pc + 1, lv, .int (nI L) :: st, S)) : BX M D (some (L, xs)) Q (pc, lv, .ref 999 :: st, S) := by
  intro p l e R s m args below meth c ad tc dC dI A H locs cells slots Qw ls C T hP hD hS hl
  obtain ⟨hx, hb, hml, hown, hts, hK, hA, hR, ⟨hcn, hck, hN⟩, hsc⟩ := id C
  have hd := fet_1 hck hf (Nat.succ_ne_zero _)
  obtain ⟨hX, hbl, hbA⟩ := hsc L xs rfl
  exact va_slen hx hb hX hbl hbA hS hd (kk p l e R s m args below meth c ad tc dC dI A H locs cells slots Qw ls C T hP hD hS hl)
theorem x_idiv {M : MI} {D : Nat} {sc : Option (Nat × (Nat → Int32))} {Q : Option Value → ST → Prop} {pc : Nat} {lv : List (Nat × Value)} {st : List Value} {S : ST} {x y : Int32} (hf : fet M pc = some .idiv) (hne : ¬ y = 0) (kk : BX M D sc Q (pc + 1, lv, .int (x / y) :: st, S)) : BX M D sc Q (pc, lv, .int y :: .int x :: st, S) := by
  intro p l e R s m args below meth c ad tc dC dI A H locs cells slots Qw ls C T hP hD hS hl
  obtain ⟨hx, hb, hml, hown, hts, hK, hA, hR, ⟨hcn, hck, hN⟩, hsc⟩ := id C
  have hd := fet_1 hck hf (Nat.succ_ne_zero _)
  exact lv_idiv hx hb hd hne (kk p l e R s m args below meth c ad tc dC dI A H locs cells slots Qw ls C T hP hD hS hl)
theorem x_irem {M : MI} {D : Nat} {sc : Option (Nat × (Nat → Int32))} {Q : Option Value → ST → Prop} {pc : Nat} {lv : List (Nat × Value)} {st : List Value} {S : ST} {x y : Int32} (hf : fet M pc = some .irem) (hne : ¬ y = 0) (kk : BX M D sc Q (pc + 1, lv, .int (x - x / y * y) :: st, S)) : BX M D sc Q (pc, lv, .int y :: .int x :: st, S) := by
  intro p l e R s m args below meth c ad tc dC dI A H locs cells slots Qw ls C T hP hD hS hl
  obtain ⟨hx, hb, hml, hown, hts, hK, hA, hR, ⟨hcn, hck, hN⟩, hsc⟩ := id C
  have hd := fet_1 hck hf (Nat.succ_ne_zero _)
  exact lv_irem hx hb hd hne (kk p l e R s m args below meth c ad tc dC dI A H locs cells slots Qw ls C T hP hD hS hl)
theorem x_ldiv {M : MI} {D : Nat} {sc : Option (Nat × (Nat → Int32))} {Q : Option Value → ST → Prop} {pc : Nat} {lv : List (Nat × Value)} {st : List Value} {S : ST} {x y : Int64} (hf : fet M pc = some .ldiv) (hne : ¬ y = 0) (kk : BX M D sc Q (pc + 1, lv, .long (x / y) :: st, S)) : BX M D sc Q (pc, lv, .long y :: .long x :: st, S) := by
  intro p l e R s m args below meth c ad tc dC dI A H locs cells slots Qw ls C T hP hD hS hl
  obtain ⟨hx, hb, hml, hown, hts, hK, hA, hR, ⟨hcn, hck, hN⟩, hsc⟩ := id C
  have hd := fet_1 hck hf (Nat.succ_ne_zero _)
  exact lv_ldiv hx hb hd hne (kk p l e R s m args below meth c ad tc dC dI A H locs cells slots Qw ls C T hP hD hS hl)
theorem x_lrem {M : MI} {D : Nat} {sc : Option (Nat × (Nat → Int32))} {Q : Option Value → ST → Prop} {pc : Nat} {lv : List (Nat × Value)} {st : List Value} {S : ST} {x y : Int64} (hf : fet M pc = some .lrem) (hne : ¬ y = 0) (kk : BX M D sc Q (pc + 1, lv, .long (x - x / y * y) :: st, S)) : BX M D sc Q (pc, lv, .long y :: .long x :: st, S) := by
  intro p l e R s m args below meth c ad tc dC dI A H locs cells slots Qw ls C T hP hD hS hl
  obtain ⟨hx, hb, hml, hown, hts, hK, hA, hR, ⟨hcn, hck, hN⟩, hsc⟩ := id C
  have hd := fet_1 hck hf (Nat.succ_ne_zero _)
  exact lv_lrem hx hb hd hne (kk p l e R s m args below meth c ad tc dC dI A H locs cells slots Qw ls C T hP hD hS hl)
theorem x_tabIn {M : MI} {D : Nat} {sc : Option (Nat × (Nat → Int32))} {Q : Option Value → ST → Prop} {pc : Nat} {lv : List (Nat × Value)} {st : List Value} {S : ST} {dflt lo hi : Int} {offs : Array Int} {x : Int32} {off : Int} (tgt : Nat) (hf : fet M pc = some (.tableswitch dflt lo hi offs)) (h1 : ¬ x.toInt < lo) (h2 : ¬ hi < x.toInt) (ho : offs[(x.toInt - lo).toNat]? = some off) (ht : (pc : Int) + off = (tgt : Int)) (kk : BX M D sc Q (tgt, lv, st, S)) : BX M D sc Q (pc, lv, .int x :: st, S) := by
  intro p l e R s m args below meth c ad tc dC dI A H locs cells slots Qw ls C T hP hD hS hl
  obtain ⟨hx, hb, hml, hown, hts, hK, hA, hR, ⟨hcn, hck, hN⟩, hsc⟩ := id C
  obtain ⟨n, hd, -⟩ := fet_ok hck hf
  exact lv_tableIn hx hb hd h1 h2 ho ht (kk p l e R s m args below meth c ad tc dC dI A H locs cells slots Qw ls C T hP hD hS hl)
theorem x_tabOut {M : MI} {D : Nat} {sc : Option (Nat × (Nat → Int32))} {Q : Option Value → ST → Prop} {pc : Nat} {lv : List (Nat × Value)} {st : List Value} {S : ST} {dflt lo hi : Int} {offs : Array Int} {x : Int32} (tgt : Nat) (hf : fet M pc = some (.tableswitch dflt lo hi offs)) (h1 : x.toInt < lo ∨ hi < x.toInt) (ht : (pc : Int) + dflt = (tgt : Int)) (kk : BX M D sc Q (tgt, lv, st, S)) : BX M D sc Q (pc, lv, .int x :: st, S) := by
  intro p l e R s m args below meth c ad tc dC dI A H locs cells slots Qw ls C T hP hD hS hl
  obtain ⟨hx, hb, hml, hown, hts, hK, hA, hR, ⟨hcn, hck, hN⟩, hsc⟩ := id C
  obtain ⟨n, hd, -⟩ := fet_ok hck hf
  exact lv_tableOut hx hb hd h1 ht (kk p l e R s m args below meth c ad tc dC dI A H locs cells slots Qw ls C T hP hD hS hl)
theorem x_lookup {M : MI} {D : Nat} {sc : Option (Nat × (Nat → Int32))} {Q : Option Value → ST → Prop} {pc : Nat} {lv : List (Nat × Value)} {st : List Value} {S : ST} {dflt : Int} {ps : Array (Int × Int)} {x : Int32} {off : Int} (tgt : Nat) (hf : fet M pc = some (.lookupswitch dflt ps)) (hp : (ps.toList.zip (ps.toList.drop 1)).all (fun (a, next) => a.1 < next.1) = true) (ho : Op.lookupswitch.offset ps.toList dflt x.toInt = off) (ht : (pc : Int) + off = (tgt : Int)) (kk : BX M D sc Q (tgt, lv, st, S)) : BX M D sc Q (pc, lv, .int x :: st, S) := by
  intro p l e R s m args below meth c ad tc dC dI A H locs cells slots Qw ls C T hP hD hS hl
  obtain ⟨hx, hb, hml, hown, hts, hK, hA, hR, ⟨hcn, hck, hN⟩, hsc⟩ := id C
  obtain ⟨n, hd, -⟩ := fet_ok hck hf
  exact lv_lookup hx hb hd hp ho ht (kk p l e R s m args below meth c ad tc dC dI A H locs cells slots Qw ls C T hP hD hS hl)
theorem x_less {M : MI} {D : Nat} {sc : Option (Nat × (Nat → Int32))} {Q : Option Value → ST → Prop} {pc : Nat} {lv : List (Nat × Value)} {st : List Value} {S : ST} {lv' : List (Nat × Value)} (ks : List Nat) (h : lv_pick lv ks = lv') (kk : BX M D sc Q (pc, lv', st, S)) : BX M D sc Q (pc, lv, st, S) := by
  intro p l e R s m args below meth c ad tc dC dI A H locs cells slots Qw ls C T hP hD hS hl
  refine kk p l e R s m args below meth c ad tc dC dI A H locs cells slots Qw ls C T hP hD hS (lv_less hl (fun q hq => ?_))
  obtain ⟨q0, h0, rfl⟩ := List.mem_map.mp hq
  dsimp only at h0
  rw [← h] at h0
  obtain ⟨k, -, hk⟩ := List.mem_filterMap.mp h0
  exact List.mem_map.mpr ⟨q0, List.mem_of_getElem? hk, rfl⟩
theorem x_ret {M : MI} {D : Nat} {sc : Option (Nat × (Nat → Int32))} {Q : Option Value → ST → Prop} {pc : Nat} {lv : List (Nat × Value)} {st : List Value} {S : ST} {r : Option Value} (hf : fet M pc = some (rins r)) (h0 : ilen (rins r) = 1) (hr : rfit (mrt M) r) (hq : Q r S) (hst : st = r.toList) : BX M D sc Q (pc, lv, st, S) := by
  intro p l e R s m args below meth c ad tc dC dI A H locs cells slots Qw ls C T hP hD hS hl
  obtain ⟨hx, hb, hml, hown, hts, hK, hA, hR, ⟨hcn, hck, hN⟩, hsc⟩ := id C
  have hd := fet_1 hck hf (by rw [h0]; exact Nat.one_ne_zero)
  rw [h0] at hd
  subst hst
  have hW := T pc r S H locs ls hq hr hd hP hD hS
  cases r <;> exact hW
theorem BX.mono {M : MI} {D : Nat} {sc : Option (Nat × (Nat → Int32))} {Q Q' : Option Value → ST → Prop} {c0 : CFG} (h : BX M D sc Q c0) (hq : ∀ r u, Q r u → Q' r u) : BX M D sc Q' c0 := by
  intro p l e R s m args below meth c ad tc dC dI A H locs cells slots Qw ls C T hP hD hS hl
  exact h p l e R s m args below meth c ad tc dC dI A H locs cells slots Qw ls C (fun pc r S' H' locs' ls' hQ => T pc r S' H' locs' ls' (hq r S' hQ)) hP hD hS hl
theorem pe_blind {dC : Nat → ClassId} {dI : Nat → Nat → Nat} {ad : Nat → Nat} {tc : Nat → ClassId} {sz : Nat} {av : List Value} {S : ST} : FrameBlind (PE dC dI ad tc sz av S) := fun a U g mk q => by
  obtain ⟨q0, q1, qP, qK, qD, qN⟩ := q
  exact ⟨q0, q1, qP, va_K.moved (u := U) (U := U.calling g mk a) (Vm.Alike.refl U.vm) qK, qD, NW.same (s := U) (U := U.calling g mk a) rfl qN⟩
theorem cat_map (ad : Nat → Nat) (r : List Value) : ((r.map (em ad)).map fun v => v.category).sum = (r.map fun v => v.category).sum := by
  rw [List.map_map]
  congr 1
  exact List.map_congr_left (fun v _ => em_cat ad v)
theorem x_after {p : Program} {l : Launch} {e : Env} {R : Room} {s : State} {m : MethodId} {args : Array Value} {below : List Frame} {meth : Method} {c : Code} {ad : Nat → Nat} {tc : Nat → ClassId} {dC : Nat → ClassId} {dI : Nat → Nat → Nat} {A : Nat → Prop} {H : Heap} {locs : List Loc} {cells slots pc : Nat} {Qw : State → Prop} {ls : Array Slot} {st0 rest : List Value} {S : ST} {Q' : Option Value → ST → Prop} {a : Array Value}
    (hr : va_Run p l e R s m args below meth c H locs cells slots 0 0 (F0 m pc ls st0) (rest.map (em ad)) (QE dC dI ad tc H.size Q' S a) (va_A (wld ad tc S) H.size)) (hD : va_D A (wld ad tc S)) (hS : va_S A s.heap H locs) (hA : ∀ q : Nat, s.heap.size ≤ q → A q)
    (kk : ∀ (r : Option Value) (u : ST) (H1 : Heap) (locs1 : List Loc), Q' r u → va_P (dC, dI) clss (wld ad tc u) H1 → va_D A (wld ad tc u) → va_S A s.heap H1 locs1 → W p l e R s m args below meth c H1 locs1 cells slots Qw (F0 m (pc + 3) ls ((r.toList ++ rest).map (em ad)))) : W p l e R s m args below meth c H locs cells slots Qw (F0 m pc ls st0) := by
  have hF : ∀ q, va_A (wld ad tc S) H.size q → A q := by
    intro q hq
    rcases hq with ⟨k, e, h⟩ | h
    · exact hD.2 k _ h
    · exact hA q (Nat.le_trans hS.1 h)
  intro T hT X
  obtain ⟨v, st₀, t, T', L, h0, X', hL, e1, e2, ⟨⟨r, u, hv, hq, hP1, hK1, hD1⟩, hz, hk⟩, st⟩ := hr T hT X
  have hv : v = r.map (em ad) := by
    injection hv
  subst hv
  rw [h0] at hz hk
  obtain ⟨t2, a1, b1⟩ := kk r u T'.heap (locs ++ L) hq (by rw [e1]; exact hP1) (hD1.weaken (fun _ q _ h => hF q.1 h))
    ⟨Nat.le_trans hS.1 (by rw [e1]; exact hz), fun q h1 h2 => by rw [e1, hk q (Nat.lt_of_lt_of_le h1 hS.1) (fun z => h2 (hF q z))]; exact hS.2.1 q h1 h2, fun q hq => by
      rcases List.mem_append.mp hq with h | h
      · exact hS.2.2 q h
      · exact hF _ (hL q h)⟩ T' rfl X'
  refine ⟨t2, st t2 ?_, b1⟩
  rw [List.map_append] at a1
  cases r <;> exact a1
theorem good_ws {M : MI} {n : Nat} (hm : MOK M n) : GoodIn tbl (wsM M) := fun w hw => by
  rcases List.mem_cons.mp hw with rfl | hw
  · exact gd_all _ (tbl_in hm.1 rfl)
  · exact gd_all w hw
/-- a call of an object's method -/
theorem x_callV {M M' : MI} {D D' n k ci nn idx : Nat} {fl : List (Option Nat)} {sc : Option (Nat × (Nat → Int32))} {Q Q' : Option Value → ST → Prop} {pc : Nat} {lv : List (Nat × Value)} {st rest : List Value} {S : ST} (As : List Value) (hf : fet M pc = some (.invokevirtual idx)) (hm : MOK M' n) (hl : Cond.methodLink (mnm M).cls idx (mnm M') ∈ tbl) (hin : Cond.instanceMethod (mnm M') ∈ tbl) (hse : Cond.selects (mnm M').cls (mnm M') (mnm M') ∈ tbl) (hk : shp[k]? = some (ci + 4, nn, fl)) (hc : (clss[ci]?).map (fun q => q.1) = some (mnm M').cls) (hst : st = As.reverse ++ .ref k :: rest) (hn : As.length = n) (hrest : (rest.map fun v => v.category).sum ≤ 8) (hD' : D' + 1 ≤ D) (hml' : mml M' ≤ 21) (E : EX M' D' (.ref k :: As) S Q') (kk : ∀ r u, Q' r u → BX M D sc Q (pc + 3, lv, r.toList ++ rest, u)) : BX M D sc Q (pc, lv, st, S) := by
  intro p l e R s m args below meth c ad tc dC dI A H locs cells slots Qw ls C T hP hD hS hl'
  obtain ⟨hx, hb, hml, hown, hts, hK, hA, hR, ⟨hcn, hck, hN⟩, hsc⟩ := id C
  have hd := fet_1 hck hf (Nat.succ_ne_zero _)
  subst hst
  obtain ⟨q, hq, hq1⟩ : ∃ q, clss[ci]? = some q ∧ q.1 = (mnm M').cls := by
    cases h : clss[ci]? with
    | none => rw [h] at hc; cases hc
    | some q => rw [h] at hc; exact ⟨q, rfl, Option.some.inj hc⟩
  have hat := wld_at (ad := ad) (tc := tc) S hk
  rw [cel_obj] at hat
  have hrv := va_recv hK hP hq hat
  rw [hq1] at hrv
  refine x_after (rest := rest) (a := (Value.ref (ad k) :: As.map (em ad)).toArray) (va_runV (As := As.map (em ad)) (C := (mnm M').cls) (n := n) ⟨hx, hb, hml, hown, hts⟩ (E l dC dI ad tc H.size) ⟨callB_of n hts (good_ws hm) rfl rfl rfl (hts _ (tbl_in hm.2.1 rfl)) (hts _ hl) hm.2.2.1.2 ⟨Nat.le_trans hD' hR.1, ?_⟩, hts _ hin, hts _ hse⟩ ⟨pe_blind, hrv, fun U hU hW => ⟨rfl, by rw [hU], by rw [hU]; exact hP, va_K.moved hW.alike hK, hD.weaken (fun _ _ _ _ => trivial), NW.warm hW hN⟩⟩ rfl (by rw [List.length_map]; exact hn) hl'.1 ?_ (lv_room (by rw [cat_map]; exact hrest)) hd ⟨hR.2.2.1, hR.2.2.2⟩) hD hS hA (fun r u H1 locs1 hq hP1 hD1 hS1 => kk r u hq p l e R s m args below meth c ad tc dC dI A H1 locs1 cells slots Qw ls C T hP1 hD1 hS1 hl')
  · have h2 := hR.2.1
    show 8 + (mml M' + 11) + 40 * D' ≤ R.locals
    omega
  · show (As.reverse ++ .ref k :: rest).map (em ad) = _
    rw [List.map_append, List.map_reverse]
    rfl
/-- a call of a static method -/
theorem x_callS {M M' : MI} {D D' n idx : Nat} {sc : Option (Nat × (Nat → Int32))} {Q Q' : Option Value → ST → Prop} {pc : Nat} {lv : List (Nat × Value)} {st rest : List Value} {S : ST} (As : List Value) (hf : fet M pc = some (.invokestatic idx)) (hm : MOK M' n) (hl : Cond.methodLink (mnm M).cls idx (mnm M') ∈ tbl) (hin : Cond.static (mnm M') ∈ tbl) (hst : st = As.reverse ++ rest) (hn : As.length = n) (hrest : (rest.map fun v => v.category).sum ≤ 8) (hD' : D' + 1 ≤ D) (hml' : mml M' ≤ 21) (E : EX M' D' As S Q') (kk : ∀ r u, Q' r u → BX M D sc Q (pc + 3, lv, r.toList ++ rest, u)) : BX M D sc Q (pc, lv, st, S) := by
  intro p l e R s m args below meth c ad tc dC dI A H locs cells slots Qw ls C T hP hD hS hl'
  obtain ⟨hx, hb, hml, hown, hts, hK, hA, hR, ⟨hcn, hck, hN⟩, hsc⟩ := id C
  have hd := fet_1 hck hf (Nat.succ_ne_zero _)
  subst hst
  refine x_after (rest := rest) (a := (As.map (em ad)).toArray) (va_runS (As := As.map (em ad)) (n := n) ⟨hx, hb, hml, hown, hts⟩ (E l dC dI ad tc H.size) ⟨callB_of n hts (good_ws hm) rfl rfl rfl (hts _ (tbl_in hm.2.1 rfl)) (hts _ hl) hm.2.2.1.2 ⟨Nat.le_trans hD' hR.1, ?_⟩, hts _ hin⟩ ⟨pe_blind, fun U hU hW => ⟨rfl, by rw [hU], by rw [hU]; exact hP, va_K.moved hW.alike hK, hD.weaken (fun _ _ _ _ => trivial), NW.warm hW hN⟩⟩ rfl (by rw [List.length_map]; exact hn) hl'.1 ?_ (lv_room (by rw [cat_map]; exact hrest)) hd ⟨hR.2.2.1, hR.2.2.2⟩) hD hS hA (fun r u H1 locs1 hq hP1 hD1 hS1 => kk r u hq p l e R s m args below meth c ad tc dC dI A H1 locs1 cells slots Qw ls C T hP1 hD1 hS1 hl')
  · have h2 := hR.2.1
    show 8 + (mml M' + 11) + 40 * D' ≤ R.locals
    omega
  · show (As.reverse ++ rest).map (em ad) = _
    rw [List.map_append, List.map_reverse]
/-- a call of a private static method of the nest -/
theorem x_callN {M M' : MI} {D D' n idx : Nat} {host : String} {sc : Option (Nat × (Nat → Int32))} {Q Q' : Option Value → ST → Prop} {pc : Nat} {lv : List (Nat × Value)} {st rest : List Value} {S : ST} (As : List Value) (hf : fet M pc = some (.invokestatic idx)) (hm : MOK M' n) (hl : ∀ U, NW U → va_Nw (.methodLinkNest (mnm M).cls idx (mnm M') host) U) (hin : Cond.static (mnm M') ∈ tbl) (hst : st = As.reverse ++ rest) (hn : As.length = n) (hrest : (rest.map fun v => v.category).sum ≤ 8) (hD' : D' + 1 ≤ D) (hml' : mml M' ≤ 21) (E : EX M' D' As S Q') (kk : ∀ r u, Q' r u → BX M D sc Q (pc + 3, lv, r.toList ++ rest, u)) : BX M D sc Q (pc, lv, st, S) := by
  intro p l e R s m args below meth c ad tc dC dI A H locs cells slots Qw ls C T hP hD hS hl'
  obtain ⟨hx, hb, hml, hown, hts, hK, hA, hR, ⟨hcn, hck, hN⟩, hsc⟩ := id C
  have hd := fet_1 hck hf (Nat.succ_ne_zero _)
  subst hst
  refine x_after (rest := rest) (a := (As.map (em ad)).toArray) (va_runSN (As := As.map (em ad)) (n := n) ⟨hx, hb, hml, hown, hts⟩ (E l dC dI ad tc H.size) ⟨va_cnB n hts (good_ws hm) rfl rfl rfl (hl s hN) (hts _ (tbl_in hm.2.1 rfl)) hm.2.2.1.2 ⟨Nat.le_trans hD' hR.1, ?_⟩, hts _ hin, trivial⟩ ⟨pe_blind, fun U hU hW => ⟨rfl, by rw [hU], by rw [hU]; exact hP, va_K.moved hW.alike hK, hD.weaken (fun _ _ _ _ => trivial), NW.warm hW hN⟩⟩ rfl (by rw [List.length_map]; exact hn) hl'.1 ?_ (lv_room (by rw [cat_map]; exact hrest)) hd ⟨hR.2.2.1, hR.2.2.2⟩) hD hS hA (fun r u H1 locs1 hq hP1 hD1 hS1 => kk r u hq p l e R s m args below meth c ad tc dC dI A H1 locs1 cells slots Qw ls C T hP1 hD1 hS1 hl')
  · have h2 := hR.2.1
    show 8 + (mml M' + 11) + 40 * D' ≤ R.locals
    omega
  · show (As.reverse ++ rest).map (em ad) = _
    rw [List.map_append, List.map_reverse]
theorem x_mmax {M : MI} {D : Nat} {sc : Option (Nat × (Nat → Int32))} {Q : Option Value → ST → Prop} {pc : Nat} {lv : List (Nat × Value)} {st : List Value} {S : ST} {x y : Int32} {idx : Nat} (hf : fet M pc = some (.invokestatic idx)) (hl : Cond.methodLink (mnm M).cls idx Lib.Math.max.name ∈ tbl) (h1 : Cond.static Lib.Math.max.name ∈ tbl) (h2 : Cond.initialized "java/lang/Math" ∈ tbl) (h3 : Cond.code Lib.Math.max.name Lib.Math.max.code 2 (some .int) ∈ tbl) (hrest : (st.map fun v => v.category).sum ≤ 8) (hD : 1 ≤ D) (kk : BX M D sc Q (pc + 3, lv, .int (if x < y then y else x) :: st, S)) : BX M D sc Q (pc, lv, .int y :: .int x :: st, S) := by
  intro p l e R s m args below meth c ad tc dC dI A H locs cells slots Qw ls C T hP hDD hS hl0
  obtain ⟨hx, hb, hml, hown, hts, hK, hA, hR, ⟨hcn, hck, hN⟩, hsc⟩ := id C
  have hd := fet_1 hck hf (Nat.succ_ne_zero _)
  refine va_mmax hx hb (hml.trans hl0.1.symm) hown (hts _ hl) (hts _ h1) (hts _ h2) (hts _ h3) (Nat.le_trans hD hR.1) ?_ hR.2.2.1 hR.2.2.2 hd (kk p l e R s m args below meth c ad tc dC dI A H locs cells slots Qw ls C T hP hDD hS hl0)
  have := hR.2.1
  rw [cat_map]
  omega
theorem x_mmin {M : MI} {D : Nat} {sc : Option (Nat × (Nat → Int32))} {Q : Option Value → ST → Prop} {pc : Nat} {lv : List (Nat × Value)} {st : List Value} {S : ST} {x y : Int32} {idx : Nat} (hf : fet M pc = some (.invokestatic idx)) (hl : Cond.methodLink (mnm M).cls idx Lib.Math.min.name ∈ tbl) (h1 : Cond.static Lib.Math.min.name ∈ tbl) (h2 : Cond.initialized "java/lang/Math" ∈ tbl) (h3 : Cond.code Lib.Math.min.name Lib.Math.min.code 2 (some .int) ∈ tbl) (hrest : (st.map fun v => v.category).sum ≤ 8) (hD : 1 ≤ D) (kk : BX M D sc Q (pc + 3, lv, .int (if y < x then y else x) :: st, S)) : BX M D sc Q (pc, lv, .int y :: .int x :: st, S) := by
  intro p l e R s m args below meth c ad tc dC dI A H locs cells slots Qw ls C T hP hDD hS hl0
  obtain ⟨hx, hb, hml, hown, hts, hK, hA, hR, ⟨hcn, hck, hN⟩, hsc⟩ := id C
  have hd := fet_1 hck hf (Nat.succ_ne_zero _)
  refine va_mmin hx hb (hml.trans hl0.1.symm) hown (hts _ hl) (hts _ h1) (hts _ h2) (hts _ h3) (Nat.le_trans hD hR.1) ?_ hR.2.2.1 hR.2.2.2 hd (kk p l e R s m args below meth c ad tc dC dI A H locs cells slots Qw ls C T hP hDD hS hl0)
  have := hR.2.1
  rw [cat_map]
  omega
theorem x_copy {M : MI} {D : Nat} {sc : Option (Nat × (Nat → Int32))} {Q : Option Value → ST → Prop} {pc : Nat} {lv : List (Nat × Value)} {st : List Value} {S : ST} {x y z : Int32} {idx k0 k1 n0 n1 : Nat} {f0 f1 : List (Option Nat)} (hf : fet M pc = some (.invokestatic idx)) (hl : Cond.methodLink (mnm M).cls idx arraycopyName ∈ tbl) (h1 : Cond.native arraycopyName ∈ tbl) (h2 : Cond.static arraycopyName ∈ tbl) (h3 : Cond.initialized "java/lang/System" ∈ tbl) (hk0 : shp[k0]? = some (0, n0, f0)) (hk1 : shp[k1]? = some (0, n1, f1)) (g1 : ¬ x < 0) (g2 : ¬ y < 0) (g3 : ¬ z < 0) (g4 : x.toNatClampNeg + z.toNatClampNeg ≤ n0) (g5 : y.toNatClampNeg + z.toNatClampNeg ≤ n1) (hrest : (st.map fun v => v.category).sum ≤ 8) (hD : 1 ≤ D) (kk : BX M D sc Q (pc + 3, lv, st, rwr S k1 (va_cpy (S.1 k0) (S.1 k1) x.toNatClampNeg y.toNatClampNeg z.toNatClampNeg))) : BX M D sc Q (pc, lv, .int z :: .int y :: .ref k1 :: .int x :: .ref k0 :: st, S) := by
  intro p l e R s m args below meth c ad tc dC dI A H locs cells slots Qw ls C T hP hDD hS hl0
  obtain ⟨hx, hb, hml, hown, hts, hK, hA, hR, ⟨hcn, hck, hN⟩, hsc⟩ := id C
  have hd := fet_1 hck hf (Nat.succ_ne_zero _)
  have he : (wld ad tc S).set k1 (ad k1, .inl (tc 0, n1, .inl (va_cpy (S.1 k0) (S.1 k1) x.toNatClampNeg y.toNatClampNeg z.toNatClampNeg))) = wld ad tc (rwr S k1 (va_cpy (S.1 k0) (S.1 k1) x.toNatClampNeg y.toNatClampNeg z.toNatClampNeg)) := wld_rwr hk1 (by show (Sum.inl (tc 0, n1, Sum.inl ((rwr S k1 _).1 k1)) : va_E) = _; simp only [rwr, if_pos])
  refine va_copyi hx hb (hml.trans hl0.1.symm) hown (hts _ hl) (hts _ h1) (hts _ h2) (hts _ h3) hK hP hDD hS k0 k1 0 0 (wld_at (ad := ad) (tc := tc) S hk0) (wld_at (ad := ad) (tc := tc) S hk1) rfl rfl rfl g1 g2 g3 g4 g5 (fun _ _ => rfl) (Nat.le_trans hD hR.1) ?_ hd (fun H1 locs1 hP1 hD1 hS1 => ?_)
  · have := hR.2.1
    rw [cat_map]
    have h9 : nativeFrameWords "java/lang/System" "arraycopy" 5 = 7 := by decide +kernel
    rw [h9]
    omega
  · have hP2 : va_P (dC, dI) clss (wld ad tc (rwr S k1 (va_cpy (S.1 k0) (S.1 k1) x.toNatClampNeg y.toNatClampNeg z.toNatClampNeg))) H1 := by rw [← he]; exact hP1
    have hD2 : va_D A (wld ad tc (rwr S k1 (va_cpy (S.1 k0) (S.1 k1) x.toNatClampNeg y.toNatClampNeg z.toNatClampNeg))) := by rw [← he]; exact hD1
    exact kk p l e R s m args below meth c ad tc dC dI A H1 locs1 cells slots Qw ls C T hP2 hD2 hS1 hl0

set_option maxHeartbeats 4000000 in
theorem ex1_ok {M : MI} {D : Nat} {sc : Option (Nat × (Nat → Int32))} {Q : Option Value → ST → Prop} {i : Instr} {pc : Nat} {lv : List (Nat × Value)} {st : List Value} {S : ST} {c' : CFG} (hf : fet M pc = some i) (h : ex1 M i pc lv st S = some c') (kk0 : BX M D sc Q c') : BX M D sc Q (pc, lv, st, S) := by
  intro p l e R s m args below meth c ad tc dC dI A H locs cells slots Qw ls C T hP hD hS hl
  have K := kk0 p l e R s m args below meth c ad tc dC dI A
  obtain ⟨hx, hb, hml, hown, hts, hK, hA, hR, ⟨hcn, hck, hN⟩, hsc⟩ := id C
  have hd := fet_1 hck hf
  cases i with
  | iconst v => cases h; exact lv_iconst hx hb (hd (Nat.succ_ne_zero _)) rfl (K H locs cells slots Qw ls C T hP hD hS hl)
  | bipush v => cases h; exact lv_bipush hx hb (hd (Nat.succ_ne_zero _)) rfl (K H locs cells slots Qw ls C T hP hD hS hl)
  | sipush v => cases h; exact lv_sipush hx hb (hd (Nat.succ_ne_zero _)) rfl (K H locs cells slots Qw ls C T hP hD hS hl)
  | lconst v => cases h; exact lv_lconst hx hb (hd (Nat.succ_ne_zero _)) rfl (K H locs cells slots Qw ls C T hP hD hS hl)
  | iload_n k =>
    obtain ⟨x, hk, rfl⟩ := ldi_inv h
    exact lv_iload_n hx hb (hd (Nat.succ_ne_zero _)) rfl (lv_look hl hk) (K H locs cells slots Qw ls C T hP hD hS hl)
  | iload k =>
    obtain ⟨x, hk, rfl⟩ := ldi_inv h
    exact lv_iload hx hb (hd (Nat.succ_ne_zero _)) (lv_look hl hk) (K H locs cells slots Qw ls C T hP hD hS hl)
  | lload_n k =>
    obtain ⟨x, hk, rfl⟩ := ldl_inv h
    exact lv_lload_n hx hb (hd (Nat.succ_ne_zero _)) rfl (lv_look hl hk) (K H locs cells slots Qw ls C T hP hD hS hl)
  | lload k =>
    obtain ⟨x, hk, rfl⟩ := ldl_inv h
    exact lv_lload hx hb (hd (Nat.succ_ne_zero _)) (lv_look hl hk) (K H locs cells slots Qw ls C T hP hD hS hl)
  | aload_n k =>
    obtain ⟨x, hk, rfl⟩ := lda_inv h
    exact lv_aload_n hx hb (hd (Nat.succ_ne_zero _)) rfl (lv_look hl hk) (K H locs cells slots Qw ls C T hP hD hS hl)
  | aload k =>
    obtain ⟨x, hk, rfl⟩ := lda_inv h
    exact lv_aload hx hb (hd (Nat.succ_ne_zero _)) (lv_look hl hk) (K H locs cells slots Qw ls C T hP hD hS hl)
  | istore_n k =>
    obtain ⟨x, r, rfl, hk, rfl⟩ := sti_inv h
    exact lv_istore_n hx hb (hd (Nat.succ_ne_zero _)) rfl hl hk rfl (fun ls' hl' => K H locs cells slots Qw ls' C T hP hD hS (lv_less hl' (sto_1 rfl)))
  | istore k =>
    obtain ⟨x, r, rfl, hk, rfl⟩ := sti_inv h
    exact lv_istore hx hb (hd (Nat.succ_ne_zero _)) hl hk rfl (fun ls' hl' => K H locs cells slots Qw ls' C T hP hD hS (lv_less hl' (sto_1 rfl)))
  | lstore_n k =>
    obtain ⟨x, r, rfl, hk, rfl⟩ := stl_inv h
    exact lv_lstore_n hx hb (hd (Nat.succ_ne_zero _)) rfl hl hk rfl (fun ls' hl' => K H locs cells slots Qw ls' C T hP hD hS (lv_less hl' (sto_2 rfl)))
  | lstore k =>
    obtain ⟨x, r, rfl, hk, rfl⟩ := stl_inv h
    exact lv_lstore hx hb (hd (Nat.succ_ne_zero _)) hl hk rfl (fun ls' hl' => K H locs cells slots Qw ls' C T hP hD hS (lv_less hl' (sto_2 rfl)))
  | astore_n k =>
    obtain ⟨x, r, rfl, hk, rfl⟩ := sta_inv h
    exact lv_astore_n hx hb (hd (Nat.succ_ne_zero _)) rfl hl hk rfl (fun ls' hl' => K H locs cells slots Qw ls' C T hP hD hS (lv_less hl' (sto_1 rfl)))
  | astore k =>
    obtain ⟨x, r, rfl, hk, rfl⟩ := sta_inv h
    exact lv_astore hx hb (hd (Nat.succ_ne_zero _)) hl hk rfl (fun ls' hl' => K H locs cells slots Qw ls' C T hP hD hS (lv_less hl' (sto_1 rfl)))
  | iinc k n =>
    obtain ⟨x, hk, hn, rfl⟩ := iic_inv h
    have hi := lv_look hl hk
    have h' : lv_has ls (mml M) ((k, Value.int x) :: lem ad lv) := ⟨hl.1, hl.2.1, fun q hq => by
      rcases List.mem_cons.mp hq with rfl | hq
      · exact hi
      · exact hl.2.2 q hq⟩
    refine lv_iinc (k := 0) hx hb (hd (Nat.succ_ne_zero _)) h' rfl rfl hn rfl (fun ls' hl' => K H locs cells slots Qw ls' C T hP hD hS ?_)
    refine lv_less hl' (fun q hq => ?_)
    rcases List.mem_cons.mp (sto_1 rfl q hq) with rfl | hq
    · exact List.mem_cons_self
    · obtain ⟨h1, h2⟩ := List.mem_filter.mp hq
      exact List.mem_cons_of_mem _ (List.mem_filter.mpr ⟨List.mem_cons_of_mem _ h1, h2⟩)
  | iadd =>
    obtain ⟨x, y, r, rfl, rfl⟩ := o2_inv h
    exact lv_iadd hx hb (hd (Nat.succ_ne_zero _)) (K H locs cells slots Qw ls C T hP hD hS hl)
  | isub =>
    obtain ⟨x, y, r, rfl, rfl⟩ := o2_inv h
    exact lv_isub hx hb (hd (Nat.succ_ne_zero _)) (K H locs cells slots Qw ls C T hP hD hS hl)
  | imul =>
    obtain ⟨x, y, r, rfl, rfl⟩ := o2_inv h
    exact lv_imul hx hb (hd (Nat.succ_ne_zero _)) (K H locs cells slots Qw ls C T hP hD hS hl)
  | iand =>
    obtain ⟨x, y, r, rfl, rfl⟩ := o2_inv h
    exact lv_iand hx hb (hd (Nat.succ_ne_zero _)) (K H locs cells slots Qw ls C T hP hD hS hl)
  | ior =>
    obtain ⟨x, y, r, rfl, rfl⟩ := o2_inv h
    exact lv_ior hx hb (hd (Nat.succ_ne_zero _)) (K H locs cells slots Qw ls C T hP hD hS hl)
  | ixor =>
    obtain ⟨x, y, r, rfl, rfl⟩ := o2_inv h
    exact lv_ixor hx hb (hd (Nat.succ_ne_zero _)) (K H locs cells slots Qw ls C T hP hD hS hl)
  | ishl =>
    obtain ⟨x, y, r, rfl, rfl⟩ := o2_inv h
    exact lv_ishl hx hb (hd (Nat.succ_ne_zero _)) (K H locs cells slots Qw ls C T hP hD hS hl)
  | ishr =>
    obtain ⟨x, y, r, rfl, rfl⟩ := o2_inv h
    exact lv_ishr hx hb (hd (Nat.succ_ne_zero _)) (K H locs cells slots Qw ls C T hP hD hS hl)
  | iushr =>
    obtain ⟨x, y, r, rfl, rfl⟩ := o2_inv h
    exact lv_iushr hx hb (hd (Nat.succ_ne_zero _)) rfl (K H locs cells slots Qw ls C T hP hD hS hl)
  | ineg =>
    obtain ⟨x, r, rfl, rfl⟩ := o1_inv h
    exact lv_ineg hx hb (hd (Nat.succ_ne_zero _)) (K H locs cells slots Qw ls C T hP hD hS hl)
  | i2b =>
    obtain ⟨x, r, rfl, rfl⟩ := o1_inv h
    exact lv_i2b hx hb (hd (Nat.succ_ne_zero _)) rfl (K H locs cells slots Qw ls C T hP hD hS hl)
  | i2s =>
    obtain ⟨x, r, rfl, rfl⟩ := o1_inv h
    exact lv_i2s hx hb (hd (Nat.succ_ne_zero _)) rfl (K H locs cells slots Qw ls C T hP hD hS hl)
  | ladd =>
    obtain ⟨x, y, r, rfl, rfl⟩ := l2_inv h
    exact lv_ladd hx hb (hd (Nat.succ_ne_zero _)) (K H locs cells slots Qw ls C T hP hD hS hl)
  | lsub =>
    obtain ⟨x, y, r, rfl, rfl⟩ := l2_inv h
    exact lv_lsub hx hb (hd (Nat.succ_ne_zero _)) (K H locs cells slots Qw ls C T hP hD hS hl)
  | lmul =>
    obtain ⟨x, y, r, rfl, rfl⟩ := l2_inv h
    exact lv_lmul hx hb (hd (Nat.succ_ne_zero _)) (K H locs cells slots Qw ls C T hP hD hS hl)
  | land =>
    obtain ⟨x, y, r, rfl, rfl⟩ := l2_inv h
    exact lv_land hx hb (hd (Nat.succ_ne_zero _)) (K H locs cells slots Qw ls C T hP hD hS hl)
  | lshl =>
    obtain ⟨x, y, r, rfl, rfl⟩ := s2_inv h
    exact lv_lshl hx hb (hd (Nat.succ_ne_zero _)) rfl (K H locs cells slots Qw ls C T hP hD hS hl)
  | lshr =>
    obtain ⟨x, y, r, rfl, rfl⟩ := s2_inv h
    exact lv_lshr hx hb (hd (Nat.succ_ne_zero _)) rfl (K H locs cells slots Qw ls C T hP hD hS hl)
  | getfield i => exact x_getfield hf h kk0 p l e R s m args below meth c ad tc dC dI A H locs cells slots Qw ls C T hP hD hS hl
  | putfield i => exact x_putfield hf h kk0 p l e R s m args below meth c ad tc dC dI A H locs cells slots Qw ls C T hP hD hS hl
  | goto off =>
    change gto off pc lv st S = some c' at h
    unfold gto at h
    split at h
    · rename_i h0
      cases h
      exact lv_goto hx hb (hd (Nat.succ_ne_zero _)) (Int.toNat_of_nonneg h0).symm (K H locs cells slots Qw ls C T hP hD hS hl)
    · cases h
  | dup =>
    obtain ⟨v, r, rfl, hv, rfl⟩ := dp1_inv h
    exact lv_dup hx hb (hd (Nat.succ_ne_zero _)) (by rw [em_cat]; exact hv) (K H locs cells slots Qw ls C T hP hD hS hl)
  | dup2 =>
    obtain ⟨v, w, r, rfl, hv, rfl⟩ := dp2_inv h
    exact lv_dup2_11 hx hb (hd (Nat.succ_ne_zero _)) (by rw [em_cat]; exact hv.1) (by rw [em_cat]; exact hv.2) (K H locs cells slots Qw ls C T hP hD hS hl)
  | i2l =>
    obtain ⟨x, r, rfl, rfl⟩ := wid_inv h
    exact lv_i2l hx hb (hd (Nat.succ_ne_zero _)) rfl (K H locs cells slots Qw ls C T hP hD hS hl)
  | lcmp =>
    obtain ⟨x, y, r, rfl, rfl⟩ := lcm_inv h
    exact W.lcmp hx hb (hd (Nat.succ_ne_zero _)) (K H locs cells slots Qw ls C T hP hD hS hl)
  | ldc k =>
    obtain ⟨v, hv, rfl⟩ := kci_inv h
    exact lv_ldc hx hb hown (hts _ (knI_ok hcn hv)) (hd (Nat.succ_ne_zero _)) (K H locs cells slots Qw ls C T hP hD hS hl)
  | ldc_w k =>
    obtain ⟨v, hv, rfl⟩ := kci_inv h
    exact lv_ldcw hx hb hown (hts _ (knI_ok hcn hv)) (hd (Nat.succ_ne_zero _)) (K H locs cells slots Qw ls C T hP hD hS hl)
  | ldc2_w k =>
    obtain ⟨v, hv, rfl⟩ := kcl_inv h
    exact lv_ldc2 hx hb hown (hts _ (knL_ok hcn hv)) (hd (Nat.succ_ne_zero _)) (K H locs cells slots Qw ls C T hP hD hS hl)
  | _ => cases h
/-- n simple steps in a row -/
def run (M : MI) : Nat → CFG → Option CFG
  | 0, c => some c
  | n + 1, (pc, lv, st, S) => match fet M pc with
    | some i => (match ex1 M i pc lv st S with
      | some c' => run M n c'
      | none => none)
    | none => none
theorem run_ok {M : MI} {D : Nat} {sc : Option (Nat × (Nat → Int32))} {Q : Option Value → ST → Prop} : ∀ (n : Nat) {c c' : CFG}, run M n c = some c' → BX M D sc Q c' → BX M D sc Q c := by
  intro n
  induction n with
  | zero => intro c c' h k; cases h; exact k
  | succ n ih =>
    intro c c' h k
    obtain ⟨pc, lv, st, S⟩ := c
    unfold run at h
    cases hf : fet M pc with
    | none => rw [hf] at h; cases h
    | some i =>
      rw [hf] at h
      dsimp only at h
      cases he : ex1 M i pc lv st S with
      | none => rw [he] at h; cases h
      | some c1 =>
        rw [he] at h
        exact ex1_ok hf he (ih h k)

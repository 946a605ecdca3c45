/-! the model: bytes, one hate, one boat read -/
def XM (t n : Nat) (b : Nat → Nat) (u : ST) : Prop := u.1 49 t = nI n ∧ (∀ j, j < n → u.1 50 (47 * t + j) = nI (b j)) ∧ ∀ j, j < n → b j < 256
def ba (n : Nat) (b : Nat → Nat) (k : Nat) : Int32 := if k < n then nI (b k) else (-1)
theorem ba_in {n k c d : Nat} {b : Nat → Nat} (hb : ∀ j, j < n → b j < 256) (hc : 0 < c) (hc2 : c < 256) (hd : d < 256) : (0 ≤ ba n b k - nI c ∧ ba n b k - nI c < nI d) ↔ (k < n ∧ c ≤ b k ∧ b k < c + d) := by
  unfold ba
  by_cases h : k < n
  · have q := hb k h
    rw [if_pos h]
    by_cases h2 : c ≤ b k
    · rw [pk_sub h2]
      refine ⟨fun z => ⟨h, h2, ?_⟩, fun z => ⟨nI_pos' (by omega), (nI_ltI (by omega) (by omega)).mpr (by omega)⟩⟩
      have := (nI_ltI (by omega) (by omega)).mp z.2
      omega
    · have h3 : nI (b k) - nI c < 0 := pk_sneg (by omega) (by omega)
      exact ⟨fun z => absurd h3 (Int32.not_lt.mpr z.1), fun z => absurd z.2.1 h2⟩
  · rw [if_neg h]
    have h3 : (-1 : Int32) - nI c < 0 := by
      rw [Int32.lt_iff_toInt_lt]
      have e : (-1 : Int32) - nI c = -(nI (c + 1)) := by
        rw [← nI_1, Int32.neg_add, Int32.sub_eq_add_neg, Int32.add_comm]
        exact (Int32.sub_eq_add_neg _ _).symm
      rw [e, sb_negT (by omega)]
      have : ((0 : Int32)).toInt = 0 := by decide
      omega
    exact ⟨fun z => absurd h3 (Int32.not_lt.mpr z.1), fun z => absurd z.1 h⟩
set_option maxHeartbeats 2000000 in
theorem m_byteAt0 (S : ST) (n : Nat) (b : Nat → Nat) (hX : XM 0 n b S) (hn : n ≤ 47) (k : Nat) (hk : k < 1000) : EX me_R_byteAt 0 [.ref 48, .int (nI 0), .int (nI k)] S (fun r u => r = some (.int (ba n b k)) ∧ u = S) := by
  refine EX.of mok_R_byteAt (Nat.le_of_ble_eq_true rfl) ?_
  obtain ⟨x1, x2, x3⟩ := id hX
  refine run_ok 4 (c' := (6, [(0, .ref 48), (1, .int (nI 0)), (2, .int (nI k))], [.int (nI 0), .ref 49, .int (nI k)], S)) rfl ?_
  refine x_iaN (nI n) rfl rfl (by decide) (by decide) x1 ?_
  refine x_icmpN_ge 24 rfl rfl (by omega) (by omega) (fun h7 => ?_) (fun h7 => ?_)
  · refine run_ok 1 (c' := (25, [(0, .ref 48), (1, .int (nI 0)), (2, .int (nI k))], [.int (-1)], S)) rfl ?_
    exact x_ret (r := some (.int (-1))) rfl rfl trivial ⟨congrArg (fun z => some (Value.int z)) (show ba n b k = (-1) from if_neg (by omega)).symm, rfl⟩ rfl
  · refine run_ok 5 (c' := (18, [(0, .ref 48), (1, .int (nI 0)), (2, .int (nI k))], [.int ((nI 47) * (nI 0)), .ref 50], S)) rfl ?_
    refine x_top (v' := nI 0) rfl ?_
    refine run_ok 2 (c' := (20, [(0, .ref 48), (1, .int (nI 0)), (2, .int (nI k))], [.int ((nI 0) + (nI k)), .ref 50], S)) rfl ?_
    refine x_top (v' := nI (0 + k)) (nI_add _ _) ?_
    refine x_iaN (nI (b k)) rfl rfl (by decide) (by omega) (by rw [show 0 + k = 47 * 0 + k by omega]; exact x2 k (by omega)) ?_
    refine run_ok 1 (c' := (25, [(0, .ref 48), (1, .int (nI 0)), (2, .int (nI k))], [.int (nI (b k))], S)) rfl ?_
    exact x_ret (r := some (.int (nI (b k)))) rfl rfl trivial ⟨congrArg (fun z => some (Value.int z)) (show ba n b k = nI (b k) from if_pos (by omega)).symm, rfl⟩ rfl

set_option maxHeartbeats 2000000 in
theorem m_byteAt1 (S : ST) (n : Nat) (b : Nat → Nat) (hX : XM 1 n b S) (hn : n ≤ 39) (k : Nat) (hk : k < 1000) : EX me_R_byteAt 0 [.ref 48, .int (nI 1), .int (nI k)] S (fun r u => r = some (.int (ba n b k)) ∧ u = S) := by
  refine EX.of mok_R_byteAt (Nat.le_of_ble_eq_true rfl) ?_
  obtain ⟨x1, x2, x3⟩ := id hX
  refine run_ok 4 (c' := (6, [(0, .ref 48), (1, .int (nI 1)), (2, .int (nI k))], [.int (nI 1), .ref 49, .int (nI k)], S)) rfl ?_
  refine x_iaN (nI n) rfl rfl (by decide) (by decide) x1 ?_
  refine x_icmpN_ge 24 rfl rfl (by omega) (by omega) (fun h7 => ?_) (fun h7 => ?_)
  · refine run_ok 1 (c' := (25, [(0, .ref 48), (1, .int (nI 1)), (2, .int (nI k))], [.int (-1)], S)) rfl ?_
    exact x_ret (r := some (.int (-1))) rfl rfl trivial ⟨congrArg (fun z => some (Value.int z)) (show ba n b k = (-1) from if_neg (by omega)).symm, rfl⟩ rfl
  · refine run_ok 5 (c' := (18, [(0, .ref 48), (1, .int (nI 1)), (2, .int (nI k))], [.int ((nI 47) * (nI 1)), .ref 50], S)) rfl ?_
    refine x_top (v' := nI 47) rfl ?_
    refine run_ok 2 (c' := (20, [(0, .ref 48), (1, .int (nI 1)), (2, .int (nI k))], [.int ((nI 47) + (nI k)), .ref 50], S)) rfl ?_
    refine x_top (v' := nI (47 + k)) (nI_add _ _) ?_
    refine x_iaN (nI (b k)) rfl rfl (by decide) (by omega) (by rw [show 47 + k = 47 * 1 + k by omega]; exact x2 k (by omega)) ?_
    refine run_ok 1 (c' := (25, [(0, .ref 48), (1, .int (nI 1)), (2, .int (nI k))], [.int (nI (b k))], S)) rfl ?_
    exact x_ret (r := some (.int (nI (b k)))) rfl rfl trivial ⟨congrArg (fun z => some (Value.int z)) (show ba n b k = nI (b k) from if_pos (by omega)).symm, rfl⟩ rfl


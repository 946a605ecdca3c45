/-! texts of the class -/
def sof (x : Nat) : Option Nat := if x = 108 then some 0 else if x = 115 then some 1 else if x = 116 then some 2 else none
def okh (b : Nat → Nat) (p : Nat) : Bool := if p % 4 = 0 then decide (48 ≤ b p ∧ b p ≤ 55) else if p % 4 = 1 then decide ((48 ≤ b p ∧ b p ≤ 55) ∧ ¬ b p = b (p - 1)) else if p % 4 = 2 then decide (49 ≤ b p ∧ b p ≤ 57) else decide (b p = 59)
def okb (b : Nat → Nat) (p : Nat) : Bool := if p % 5 = 0 then (sof (b p)).isSome else if p % 5 = 1 then decide (48 ≤ b p ∧ b p ≤ 55) else if p % 5 = 2 then decide (97 ≤ b p ∧ b p ≤ 120) else if p % 5 = 3 then decide (49 ≤ b p ∧ b p ≤ 57) else decide (b p = 59)
def fl (ok : Nat → Bool) : Nat → Nat → Option Nat
  | 0, _ => none
  | m + 1, j => if ok j = true then fl ok m (j + 1) else some j
/-- the fault of a text of n bytes, whose parts are st bytes apart -/
def flt (ok : Nat → Bool) (st n : Nat) : Option Nat := match fl ok n 0 with
  | some j => some j
  | none => if n = 0 ∨ n % st = st - 1 then none else some n
/-- a text: its object's cell is k, its bytes' k + 1 -/
def XR (k n : Nat) (b : Nat → Nat) (u : ST) : Prop := u.1 k 1 = nI n ∧ rh u (k + 1) n b ∧ ∀ j, j < n → b j < 256
set_option maxHeartbeats 2000000 in
theorem c_isFull0 (S : ST) (n : Nat) (b : Nat → Nat) (hX : XR 1 n b S) (hn : n ≤ 47) : EX me_X_isFull 0 [.ref 1] S (fun r u => r = some (.int (b2 (n = 47))) ∧ u = S) := by
  refine EX.of mok_X_isFull (Nat.le_of_ble_eq_true rfl) ?_
  obtain ⟨x1, x2, x3⟩ := id hX
  refine run_ok 2 (c' := (4, [(0, .ref 1)], [.int (S.1 1 1)], S)) rfl ?_
  refine x_top (v' := nI n) x1 ?_
  refine run_ok 2 (c' := (8, [(0, .ref 1)], [.ref 2, .int (nI n)], S)) rfl ?_
  refine x_alen0 rfl rfl ?_
  refine x_icmpN_lt 16 rfl rfl (by omega) (by omega) (fun h9 => ?_) (fun h9 => ?_)
  · refine run_ok 1 (c' := (17, [(0, .ref 1)], [.int (nI 0)], S)) rfl ?_
    exact x_ret (r := some (.int (nI 0))) rfl rfl (Or.inl rfl) ⟨congrArg (fun z => some (Value.int z)) (b2_f (show ¬ n = 47 by omega)).symm, rfl⟩ rfl
  · refine run_ok 2 (c' := (17, [(0, .ref 1)], [.int (nI 1)], S)) rfl ?_
    exact x_ret (r := some (.int (nI 1))) rfl rfl (Or.inr rfl) ⟨congrArg (fun z => some (Value.int z)) (b2_t (show n = 47 by omega)).symm, rfl⟩ rfl

set_option maxHeartbeats 2000000 in
theorem c_xappend0 (S : ST) (n : Nat) (b : Nat → Nat) (hX : XR 1 n b S) (hn : n < 47) (c : Nat) (hc : c < 256) : EX me_X_append 0 [.ref 1, .int (nI c)] S (fun r u => r = none ∧ XR 1 (n + 1) (upn b n c) u ∧ fr [1, 2] S u ∧ u.2 = S.2) := by
  refine EX.of mok_X_append (Nat.le_of_ble_eq_true rfl) ?_
  obtain ⟨x1, x2, x3⟩ := id hX
  refine run_ok 4 (c' := (8, [(0, .ref 1), (1, .int (nI c))], [.int (S.1 1 1), .ref 2], S)) rfl ?_
  refine x_top (v' := nI n) x1 ?_
  refine run_ok 1 (c' := (9, [(0, .ref 1), (1, .int (nI c))], [.int (nI c), .int (nI n), .ref 2], S)) rfl ?_
  refine x_isN rfl rfl (by decide) (by omega) ?_
  refine run_ok 3 (c' := (15, [(0, .ref 1), (1, .int (nI c))], [.int (S.1 1 1), .ref 1], (pt S 2 n (nI c)))) rfl ?_
  refine x_top (v' := nI n) x1 ?_
  refine run_ok 2 (c' := (17, [(0, .ref 1), (1, .int (nI c))], [.int ((nI n) + (nI 1)), .ref 1], (pt S 2 n (nI c)))) rfl ?_
  refine x_top (v' := nI (n + 1)) (nI_add _ _) ?_
  refine run_ok 1 (c' := (20, [(0, .ref 1), (1, .int (nI c))], [], (pt (pt S 2 n (nI c)) 1 1 (nI (n + 1))))) rfl ?_
  refine x_ret (r := none) rfl rfl trivial ?_ rfl
  refine ⟨rfl, ⟨rfl, fun j hj => ?_, fun j hj => ?_⟩, (fr.rf.pt (by decide)).pt (by decide), rfl⟩
  · show upd (S.1 2) n (nI c) j = nI (upn b n c j)
    unfold upd upn
    split
    · rfl
    · exact x2 j (by omega)
  · unfold upn
    split
    · exact hc
    · exact x3 j (by omega)

set_option maxHeartbeats 2000000 in
theorem c_has0 (S : ST) (n : Nat) (b : Nat → Nat) (hX : XR 1 n b S) (hn : n ≤ 47) (p l h : Nat) (hp : p < n) (hl : l < 256) (hh : h < 256) : EX me_X_has 0 [.ref 1, .int (nI p), .int (nI l), .int (nI h)] S (fun r u => r = some (.int (b2 (l ≤ b p ∧ b p ≤ h))) ∧ u = S) := by
  refine EX.of mok_X_has (Nat.le_of_ble_eq_true rfl) ?_
  obtain ⟨x1, x2, x3⟩ := id hX
  have q1 := x3 p hp
  refine run_ok 3 (c' := (5, [(0, .ref 1), (1, .int (nI p)), (2, .int (nI l)), (3, .int (nI h))], [.int (nI p), .ref 2], S)) rfl ?_
  refine x_iaN (nI (b p)) rfl rfl (by decide) (by omega) (x2 p (by omega)) ?_
  refine run_ok 1 (c' := (7, [(0, .ref 1), (1, .int (nI p)), (2, .int (nI l)), (3, .int (nI h))], [.int (nI l), .int (nI (b p))], S)) rfl ?_
  refine x_icmpN_lt 24 rfl rfl (by omega) (by omega) (fun h7 => ?_) (fun h7 => ?_)
  · refine run_ok 1 (c' := (25, [(0, .ref 1), (1, .int (nI p)), (2, .int (nI l)), (3, .int (nI h))], [.int (nI 0)], S)) rfl ?_
    exact x_ret (r := some (.int (nI 0))) rfl rfl (Or.inl rfl) ⟨congrArg (fun z => some (Value.int z)) (b2_f (show ¬ (l ≤ b p ∧ b p ≤ h) by omega)).symm, rfl⟩ rfl
  · refine run_ok 3 (c' := (15, [(0, .ref 1), (1, .int (nI p)), (2, .int (nI l)), (3, .int (nI h))], [.int (nI p), .ref 2], S)) rfl ?_
    refine x_iaN (nI (b p)) rfl rfl (by decide) (by omega) (x2 p (by omega)) ?_
    refine run_ok 1 (c' := (17, [(0, .ref 1), (1, .int (nI p)), (2, .int (nI l)), (3, .int (nI h))], [.int (nI h), .int (nI (b p))], S)) rfl ?_
    refine x_icmpN_gt 24 rfl rfl (by omega) (by omega) (fun h17 => ?_) (fun h17 => ?_)
    · refine run_ok 1 (c' := (25, [(0, .ref 1), (1, .int (nI p)), (2, .int (nI l)), (3, .int (nI h))], [.int (nI 0)], S)) rfl ?_
      exact x_ret (r := some (.int (nI 0))) rfl rfl (Or.inl rfl) ⟨congrArg (fun z => some (Value.int z)) (b2_f (show ¬ (l ≤ b p ∧ b p ≤ h) by omega)).symm, rfl⟩ rfl
    · refine run_ok 2 (c' := (25, [(0, .ref 1), (1, .int (nI p)), (2, .int (nI l)), (3, .int (nI h))], [.int (nI 1)], S)) rfl ?_
      exact x_ret (r := some (.int (nI 1))) rfl rfl (Or.inr rfl) ⟨congrArg (fun z => some (Value.int z)) (b2_t (show l ≤ b p ∧ b p ≤ h by omega)).symm, rfl⟩ rfl

set_option maxHeartbeats 2000000 in
theorem c_figure0 (S : ST) (n : Nat) (b : Nat → Nat) (hX : XR 1 n b S) (hn : n ≤ 47) (p : Nat) (hp : p < n) (h48 : 48 ≤ b p) : EX me_X_figure 0 [.ref 1, .int (nI p)] S (fun r u => r = some (.int (nI (b p - 48))) ∧ u = S) := by
  refine EX.of mok_X_figure (Nat.le_of_ble_eq_true rfl) ?_
  obtain ⟨x1, x2, x3⟩ := id hX
  refine run_ok 3 (c' := (5, [(0, .ref 1), (1, .int (nI p))], [.int (nI p), .ref 2], S)) rfl ?_
  refine x_iaN (nI (b p)) rfl rfl (by decide) (by omega) (x2 p (by omega)) ?_
  refine run_ok 2 (c' := (9, [(0, .ref 1), (1, .int (nI p))], [.int ((nI (b p)) - (nI 48))], S)) rfl ?_
  exact x_ret (r := some (.int ((nI (b p)) - (nI 48)))) rfl rfl trivial ⟨congrArg (fun z => some (Value.int z)) (pk_sub h48), rfl⟩ rfl

set_option maxHeartbeats 2000000 in
theorem c_faultEnd0 (S : ST) (n : Nat) (b : Nat → Nat) (hX : XR 1 n b S) (hn : n ≤ 47) : EX me_X_faultOfEnd 0 [.ref 1, .int (nI 4)] S (fun r u => r = some (.int (spv (if n = 0 ∨ n % 4 = 4 - 1 then none else some n))) ∧ u = S) := by
  refine EX.of mok_X_faultOfEnd (Nat.le_of_ble_eq_true rfl) ?_
  obtain ⟨x1, x2, x3⟩ := id hX
  refine run_ok 2 (c' := (4, [(0, .ref 1), (1, .int (nI 4))], [.int (S.1 1 1)], S)) rfl ?_
  refine x_top (v' := nI n) x1 ?_
  refine x_ifN_eq 19 rfl rfl (by omega) (fun h4 => ?_) (fun h4 => ?_)
  · refine run_ok 2 (c' := (27, [(0, .ref 1), (1, .int (nI 4))], [.int (-1)], S)) rfl ?_
    exact x_ret (r := some (.int (-1))) rfl rfl trivial ⟨congrArg (fun z => some (Value.int (spv z))) (show (if n = 0 ∨ n % 4 = 4 - 1 then none else some n) = none from if_pos (by omega)).symm, rfl⟩ rfl
  · refine run_ok 2 (c' := (11, [(0, .ref 1), (1, .int (nI 4))], [.int (S.1 1 1)], S)) rfl ?_
    refine x_top (v' := nI n) x1 ?_
    refine run_ok 1 (c' := (12, [(0, .ref 1), (1, .int (nI 4))], [.int (nI 4), .int (nI n)], S)) rfl ?_
    refine x_irem rfl (by decide) ?_
    refine x_top (v' := nI (n % 4)) (pk_rem (by omega) (by omega) (by omega)) ?_
    refine run_ok 3 (c' := (16, [(0, .ref 1), (1, .int (nI 4))], [.int ((nI 4) - (nI 1)), .int (nI (n % 4))], S)) rfl ?_
    refine x_top (v' := nI 3) (by decide) ?_
    refine x_icmpN_ne 23 rfl rfl (by omega) (by omega) (fun h16 => ?_) (fun h16 => ?_)
    · refine run_ok 2 (c' := (27, [(0, .ref 1), (1, .int (nI 4))], [.int (S.1 1 1)], S)) rfl ?_
      refine x_top (v' := nI n) x1 ?_
      exact x_ret (r := some (.int (nI n))) rfl rfl trivial ⟨congrArg (fun z => some (Value.int (spv z))) (show (if n = 0 ∨ n % 4 = 4 - 1 then none else some n) = some n from if_neg (by omega)).symm, rfl⟩ rfl
    · refine run_ok 2 (c' := (27, [(0, .ref 1), (1, .int (nI 4))], [.int (-1)], S)) rfl ?_
      exact x_ret (r := some (.int (-1))) rfl rfl trivial ⟨congrArg (fun z => some (Value.int (spv z))) (show (if n = 0 ∨ n % 4 = 4 - 1 then none else some n) = none from if_pos (by omega)).symm, rfl⟩ rfl

set_option maxHeartbeats 2000000 in
theorem c_isFull1 (S : ST) (n : Nat) (b : Nat → Nat) (hX : XR 3 n b S) (hn : n ≤ 39) : EX me_X_isFull 0 [.ref 3] S (fun r u => r = some (.int (b2 (n = 39))) ∧ u = S) := by
  refine EX.of mok_X_isFull (Nat.le_of_ble_eq_true rfl) ?_
  obtain ⟨x1, x2, x3⟩ := id hX
  refine run_ok 2 (c' := (4, [(0, .ref 3)], [.int (S.1 3 1)], S)) rfl ?_
  refine x_top (v' := nI n) x1 ?_
  refine run_ok 2 (c' := (8, [(0, .ref 3)], [.ref 4, .int (nI n)], S)) rfl ?_
  refine x_alen0 rfl rfl ?_
  refine x_icmpN_lt 16 rfl rfl (by omega) (by omega) (fun h9 => ?_) (fun h9 => ?_)
  · refine run_ok 1 (c' := (17, [(0, .ref 3)], [.int (nI 0)], S)) rfl ?_
    exact x_ret (r := some (.int (nI 0))) rfl rfl (Or.inl rfl) ⟨congrArg (fun z => some (Value.int z)) (b2_f (show ¬ n = 39 by omega)).symm, rfl⟩ rfl
  · refine run_ok 2 (c' := (17, [(0, .ref 3)], [.int (nI 1)], S)) rfl ?_
    exact x_ret (r := some (.int (nI 1))) rfl rfl (Or.inr rfl) ⟨congrArg (fun z => some (Value.int z)) (b2_t (show n = 39 by omega)).symm, rfl⟩ rfl

set_option maxHeartbeats 2000000 in
theorem c_xappend1 (S : ST) (n : Nat) (b : Nat → Nat) (hX : XR 3 n b S) (hn : n < 39) (c : Nat) (hc : c < 256) : EX me_X_append 0 [.ref 3, .int (nI c)] S (fun r u => r = none ∧ XR 3 (n + 1) (upn b n c) u ∧ fr [3, 4] S u ∧ u.2 = S.2) := by
  refine EX.of mok_X_append (Nat.le_of_ble_eq_true rfl) ?_
  obtain ⟨x1, x2, x3⟩ := id hX
  refine run_ok 4 (c' := (8, [(0, .ref 3), (1, .int (nI c))], [.int (S.1 3 1), .ref 4], S)) rfl ?_
  refine x_top (v' := nI n) x1 ?_
  refine run_ok 1 (c' := (9, [(0, .ref 3), (1, .int (nI c))], [.int (nI c), .int (nI n), .ref 4], S)) rfl ?_
  refine x_isN rfl rfl (by decide) (by omega) ?_
  refine run_ok 3 (c' := (15, [(0, .ref 3), (1, .int (nI c))], [.int (S.1 3 1), .ref 3], (pt S 4 n (nI c)))) rfl ?_
  refine x_top (v' := nI n) x1 ?_
  refine run_ok 2 (c' := (17, [(0, .ref 3), (1, .int (nI c))], [.int ((nI n) + (nI 1)), .ref 3], (pt S 4 n (nI c)))) rfl ?_
  refine x_top (v' := nI (n + 1)) (nI_add _ _) ?_
  refine run_ok 1 (c' := (20, [(0, .ref 3), (1, .int (nI c))], [], (pt (pt S 4 n (nI c)) 3 1 (nI (n + 1))))) rfl ?_
  refine x_ret (r := none) rfl rfl trivial ?_ rfl
  refine ⟨rfl, ⟨rfl, fun j hj => ?_, fun j hj => ?_⟩, (fr.rf.pt (by decide)).pt (by decide), rfl⟩
  · show upd (S.1 4) n (nI c) j = nI (upn b n c j)
    unfold upd upn
    split
    · rfl
    · exact x2 j (by omega)
  · unfold upn
    split
    · exact hc
    · exact x3 j (by omega)

set_option maxHeartbeats 2000000 in
theorem c_has1 (S : ST) (n : Nat) (b : Nat → Nat) (hX : XR 3 n b S) (hn : n ≤ 39) (p l h : Nat) (hp : p < n) (hl : l < 256) (hh : h < 256) : EX me_X_has 0 [.ref 3, .int (nI p), .int (nI l), .int (nI h)] S (fun r u => r = some (.int (b2 (l ≤ b p ∧ b p ≤ h))) ∧ u = S) := by
  refine EX.of mok_X_has (Nat.le_of_ble_eq_true rfl) ?_
  obtain ⟨x1, x2, x3⟩ := id hX
  have q1 := x3 p hp
  refine run_ok 3 (c' := (5, [(0, .ref 3), (1, .int (nI p)), (2, .int (nI l)), (3, .int (nI h))], [.int (nI p), .ref 4], S)) rfl ?_
  refine x_iaN (nI (b p)) rfl rfl (by decide) (by omega) (x2 p (by omega)) ?_
  refine run_ok 1 (c' := (7, [(0, .ref 3), (1, .int (nI p)), (2, .int (nI l)), (3, .int (nI h))], [.int (nI l), .int (nI (b p))], S)) rfl ?_
  refine x_icmpN_lt 24 rfl rfl (by omega) (by omega) (fun h7 => ?_) (fun h7 => ?_)
  · refine run_ok 1 (c' := (25, [(0, .ref 3), (1, .int (nI p)), (2, .int (nI l)), (3, .int (nI h))], [.int (nI 0)], S)) rfl ?_
    exact x_ret (r := some (.int (nI 0))) rfl rfl (Or.inl rfl) ⟨congrArg (fun z => some (Value.int z)) (b2_f (show ¬ (l ≤ b p ∧ b p ≤ h) by omega)).symm, rfl⟩ rfl
  · refine run_ok 3 (c' := (15, [(0, .ref 3), (1, .int (nI p)), (2, .int (nI l)), (3, .int (nI h))], [.int (nI p), .ref 4], S)) rfl ?_
    refine x_iaN (nI (b p)) rfl rfl (by decide) (by omega) (x2 p (by omega)) ?_
    refine run_ok 1 (c' := (17, [(0, .ref 3), (1, .int (nI p)), (2, .int (nI l)), (3, .int (nI h))], [.int (nI h), .int (nI (b p))], S)) rfl ?_
    refine x_icmpN_gt 24 rfl rfl (by omega) (by omega) (fun h17 => ?_) (fun h17 => ?_)
    · refine run_ok 1 (c' := (25, [(0, .ref 3), (1, .int (nI p)), (2, .int (nI l)), (3, .int (nI h))], [.int (nI 0)], S)) rfl ?_
      exact x_ret (r := some (.int (nI 0))) rfl rfl (Or.inl rfl) ⟨congrArg (fun z => some (Value.int z)) (b2_f (show ¬ (l ≤ b p ∧ b p ≤ h) by omega)).symm, rfl⟩ rfl
    · refine run_ok 2 (c' := (25, [(0, .ref 3), (1, .int (nI p)), (2, .int (nI l)), (3, .int (nI h))], [.int (nI 1)], S)) rfl ?_
      exact x_ret (r := some (.int (nI 1))) rfl rfl (Or.inr rfl) ⟨congrArg (fun z => some (Value.int z)) (b2_t (show l ≤ b p ∧ b p ≤ h by omega)).symm, rfl⟩ rfl

set_option maxHeartbeats 2000000 in
theorem c_figure1 (S : ST) (n : Nat) (b : Nat → Nat) (hX : XR 3 n b S) (hn : n ≤ 39) (p : Nat) (hp : p < n) (h48 : 48 ≤ b p) : EX me_X_figure 0 [.ref 3, .int (nI p)] S (fun r u => r = some (.int (nI (b p - 48))) ∧ u = S) := by
  refine EX.of mok_X_figure (Nat.le_of_ble_eq_true rfl) ?_
  obtain ⟨x1, x2, x3⟩ := id hX
  refine run_ok 3 (c' := (5, [(0, .ref 3), (1, .int (nI p))], [.int (nI p), .ref 4], S)) rfl ?_
  refine x_iaN (nI (b p)) rfl rfl (by decide) (by omega) (x2 p (by omega)) ?_
  refine run_ok 2 (c' := (9, [(0, .ref 3), (1, .int (nI p))], [.int ((nI (b p)) - (nI 48))], S)) rfl ?_
  exact x_ret (r := some (.int ((nI (b p)) - (nI 48)))) rfl rfl trivial ⟨congrArg (fun z => some (Value.int z)) (pk_sub h48), rfl⟩ rfl

set_option maxHeartbeats 2000000 in
theorem c_faultEnd1 (S : ST) (n : Nat) (b : Nat → Nat) (hX : XR 3 n b S) (hn : n ≤ 39) : EX me_X_faultOfEnd 0 [.ref 3, .int (nI 5)] S (fun r u => r = some (.int (spv (if n = 0 ∨ n % 5 = 5 - 1 then none else some n))) ∧ u = S) := by
  refine EX.of mok_X_faultOfEnd (Nat.le_of_ble_eq_true rfl) ?_
  obtain ⟨x1, x2, x3⟩ := id hX
  refine run_ok 2 (c' := (4, [(0, .ref 3), (1, .int (nI 5))], [.int (S.1 3 1)], S)) rfl ?_
  refine x_top (v' := nI n) x1 ?_
  refine x_ifN_eq 19 rfl rfl (by omega) (fun h4 => ?_) (fun h4 => ?_)
  · refine run_ok 2 (c' := (27, [(0, .ref 3), (1, .int (nI 5))], [.int (-1)], S)) rfl ?_
    exact x_ret (r := some (.int (-1))) rfl rfl trivial ⟨congrArg (fun z => some (Value.int (spv z))) (show (if n = 0 ∨ n % 5 = 5 - 1 then none else some n) = none from if_pos (by omega)).symm, rfl⟩ rfl
  · refine run_ok 2 (c' := (11, [(0, .ref 3), (1, .int (nI 5))], [.int (S.1 3 1)], S)) rfl ?_
    refine x_top (v' := nI n) x1 ?_
    refine run_ok 1 (c' := (12, [(0, .ref 3), (1, .int (nI 5))], [.int (nI 5), .int (nI n)], S)) rfl ?_
    refine x_irem rfl (by decide) ?_
    refine x_top (v' := nI (n % 5)) (pk_rem (by omega) (by omega) (by omega)) ?_
    refine run_ok 3 (c' := (16, [(0, .ref 3), (1, .int (nI 5))], [.int ((nI 5) - (nI 1)), .int (nI (n % 5))], S)) rfl ?_
    refine x_top (v' := nI 4) (by decide) ?_
    refine x_icmpN_ne 23 rfl rfl (by omega) (by omega) (fun h16 => ?_) (fun h16 => ?_)
    · refine run_ok 2 (c' := (27, [(0, .ref 3), (1, .int (nI 5))], [.int (S.1 3 1)], S)) rfl ?_
      refine x_top (v' := nI n) x1 ?_
      exact x_ret (r := some (.int (nI n))) rfl rfl trivial ⟨congrArg (fun z => some (Value.int (spv z))) (show (if n = 0 ∨ n % 5 = 5 - 1 then none else some n) = some n from if_neg (by omega)).symm, rfl⟩ rfl
    · refine run_ok 2 (c' := (27, [(0, .ref 3), (1, .int (nI 5))], [.int (-1)], S)) rfl ?_
      exact x_ret (r := some (.int (-1))) rfl rfl trivial ⟨congrArg (fun z => some (Value.int (spv z))) (show (if n = 0 ∨ n % 5 = 5 - 1 then none else some n) = none from if_pos (by omega)).symm, rfl⟩ rfl

set_option maxHeartbeats 2000000 in
theorem c_hb0 (S : ST) (n : Nat) (b : Nat → Nat) (hX : XR 1 n b S) (hn : n ≤ 47) (p : Nat) (hp : p < n) (hr0 : p % 4 = 0) : EX me_X_isHateByte 1 [.ref 1, .int (nI p)] S (fun r u => r = some (.int (b2 (okh b p = true))) ∧ u = S) := by
  refine EX.of mok_X_isHateByte (Nat.le_of_ble_eq_true rfl) ?_
  obtain ⟨x1, x2, x3⟩ := id hX
  have q1 := x3 p hp
  have q2 := x3 (p - 1) (by omega)
  refine run_ok 2 (c' := (2, [(0, .ref 1), (1, .int (nI p))], [.int (nI 4), .int (nI p)], S)) rfl ?_
  refine x_irem rfl (by decide) ?_
  refine x_top (v' := nI 0) (by rw [pk_rem (by omega) (by decide) (by decide), hr0]) ?_
  refine x_tabIn 28 rfl (by decide) (by decide) rfl rfl ?_
  refine run_ok 4 (c' := (34, [(0, .ref 1), (1, .int (nI p))], [.int (nI 55), .int (nI 48), .int (nI p), .ref 1], S)) rfl ?_
  refine x_callV [.int (nI p), .int (nI 48), .int (nI 55)] rfl cv_X_has.1 lk_4_33 cv_X_has.2.1 cv_X_has.2.2.1 rfl cv_X_has.2.2.2.1 rfl rfl (Nat.le_of_ble_eq_true rfl) (by decide) cv_X_has.2.2.2.2 (c_has0 S n b hX hn p 48 55 hp (by decide) (by decide)) ?_
  rintro r u ⟨hr, hu⟩
  rw [hr, hu]
  clear hr hu r u
  exact x_ret (r := some (.int (b2 (48 ≤ b p ∧ b p ≤ 55)))) rfl rfl (b2_01 _) ⟨congrArg (fun z => some (Value.int z)) (b2_c (by rw [(show okh b p = decide (48 ≤ b p ∧ b p ≤ 55) from if_pos hr0)]; simp)), rfl⟩ rfl

set_option maxHeartbeats 2000000 in
theorem c_hb1 (S : ST) (n : Nat) (b : Nat → Nat) (hX : XR 1 n b S) (hn : n ≤ 47) (p : Nat) (hp : p < n) (hr0 : p % 4 = 1) : EX me_X_isHateByte 1 [.ref 1, .int (nI p)] S (fun r u => r = some (.int (b2 (okh b p = true))) ∧ u = S) := by
  refine EX.of mok_X_isHateByte (Nat.le_of_ble_eq_true rfl) ?_
  obtain ⟨x1, x2, x3⟩ := id hX
  have q1 := x3 p hp
  have q2 := x3 (p - 1) (by omega)
  refine run_ok 2 (c' := (2, [(0, .ref 1), (1, .int (nI p))], [.int (nI 4), .int (nI p)], S)) rfl ?_
  refine x_irem rfl (by decide) ?_
  refine x_top (v' := nI 1) (by rw [pk_rem (by omega) (by decide) (by decide), hr0]) ?_
  refine x_tabIn 38 rfl (by decide) (by decide) rfl rfl ?_
  refine run_ok 4 (c' := (44, [(0, .ref 1), (1, .int (nI p))], [.int (nI 55), .int (nI 48), .int (nI p), .ref 1], S)) rfl ?_
  refine x_callV [.int (nI p), .int (nI 48), .int (nI 55)] rfl cv_X_has.1 lk_4_33 cv_X_has.2.1 cv_X_has.2.2.1 rfl cv_X_has.2.2.2.1 rfl rfl (Nat.le_of_ble_eq_true rfl) (by decide) cv_X_has.2.2.2.2 (c_has0 S n b hX hn p 48 55 hp (by decide) (by decide)) ?_
  rintro r u ⟨hr, hu⟩
  rw [hr, hu]
  clear hr hu r u
  refine x_ifB_eq 71 rfl rfl (fun h47 => ?_) (fun h47 => ?_)
  · refine run_ok 1 (c' := (72, [(0, .ref 1), (1, .int (nI p))], [.int (nI 0)], S)) rfl ?_
    exact x_ret (r := some (.int (nI 0))) rfl rfl (Or.inl rfl) ⟨congrArg (fun z => some (Value.int z)) (b2_f (by rw [(show okh b p = decide ((48 ≤ b p ∧ b p ≤ 55) ∧ ¬ b p = b (p - 1)) from (if_neg (by omega)).trans (if_pos hr0))]; intro z; have z := of_decide_eq_true z; omega)).symm, rfl⟩ rfl
  · refine run_ok 3 (c' := (55, [(0, .ref 1), (1, .int (nI p))], [.int (nI p), .ref 2], S)) rfl ?_
    refine x_iaN (nI (b p)) rfl rfl (by decide) (by omega) (x2 p (by omega)) ?_
    refine run_ok 5 (c' := (63, [(0, .ref 1), (1, .int (nI p))], [.int ((nI p) - (nI 1)), .ref 2, .int (nI (b p))], S)) rfl ?_
    refine x_top (v' := nI (p - 1)) (pk_sub (by omega)) ?_
    refine x_iaN (nI (b (p - 1))) rfl rfl (by decide) (by omega) (x2 (p - 1) (by omega)) ?_
    refine x_icmpN_eq 71 rfl rfl (by omega) (by omega) (fun h64 => ?_) (fun h64 => ?_)
    · refine run_ok 1 (c' := (72, [(0, .ref 1), (1, .int (nI p))], [.int (nI 0)], S)) rfl ?_
      exact x_ret (r := some (.int (nI 0))) rfl rfl (Or.inl rfl) ⟨congrArg (fun z => some (Value.int z)) (b2_f (by rw [(show okh b p = decide ((48 ≤ b p ∧ b p ≤ 55) ∧ ¬ b p = b (p - 1)) from (if_neg (by omega)).trans (if_pos hr0))]; intro z; have z := of_decide_eq_true z; omega)).symm, rfl⟩ rfl
    · refine run_ok 2 (c' := (72, [(0, .ref 1), (1, .int (nI p))], [.int (nI 1)], S)) rfl ?_
      exact x_ret (r := some (.int (nI 1))) rfl rfl (Or.inr rfl) ⟨congrArg (fun z => some (Value.int z)) (b2_t (by rw [(show okh b p = decide ((48 ≤ b p ∧ b p ≤ 55) ∧ ¬ b p = b (p - 1)) from (if_neg (by omega)).trans (if_pos hr0))]; exact decide_eq_true (⟨h47, h64⟩))).symm, rfl⟩ rfl

set_option maxHeartbeats 2000000 in
theorem c_hb2 (S : ST) (n : Nat) (b : Nat → Nat) (hX : XR 1 n b S) (hn : n ≤ 47) (p : Nat) (hp : p < n) (hr0 : p % 4 = 2) : EX me_X_isHateByte 1 [.ref 1, .int (nI p)] S (fun r u => r = some (.int (b2 (okh b p = true))) ∧ u = S) := by
  refine EX.of mok_X_isHateByte (Nat.le_of_ble_eq_true rfl) ?_
  obtain ⟨x1, x2, x3⟩ := id hX
  have q1 := x3 p hp
  have q2 := x3 (p - 1) (by omega)
  refine run_ok 2 (c' := (2, [(0, .ref 1), (1, .int (nI p))], [.int (nI 4), .int (nI p)], S)) rfl ?_
  refine x_irem rfl (by decide) ?_
  refine x_top (v' := nI 2) (by rw [pk_rem (by omega) (by decide) (by decide), hr0]) ?_
  refine x_tabIn 73 rfl (by decide) (by decide) rfl rfl ?_
  refine run_ok 4 (c' := (79, [(0, .ref 1), (1, .int (nI p))], [.int (nI 57), .int (nI 49), .int (nI p), .ref 1], S)) rfl ?_
  refine x_callV [.int (nI p), .int (nI 49), .int (nI 57)] rfl cv_X_has.1 lk_4_33 cv_X_has.2.1 cv_X_has.2.2.1 rfl cv_X_has.2.2.2.1 rfl rfl (Nat.le_of_ble_eq_true rfl) (by decide) cv_X_has.2.2.2.2 (c_has0 S n b hX hn p 49 57 hp (by decide) (by decide)) ?_
  rintro r u ⟨hr, hu⟩
  rw [hr, hu]
  clear hr hu r u
  exact x_ret (r := some (.int (b2 (49 ≤ b p ∧ b p ≤ 57)))) rfl rfl (b2_01 _) ⟨congrArg (fun z => some (Value.int z)) (b2_c (by rw [(show okh b p = decide (49 ≤ b p ∧ b p ≤ 57) from (if_neg (by omega)).trans ((if_neg (by omega)).trans (if_pos hr0)))]; simp)), rfl⟩ rfl

set_option maxHeartbeats 2000000 in
theorem c_hb3 (S : ST) (n : Nat) (b : Nat → Nat) (hX : XR 1 n b S) (hn : n ≤ 47) (p : Nat) (hp : p < n) (hr0 : p % 4 = 3) : EX me_X_isHateByte 1 [.ref 1, .int (nI p)] S (fun r u => r = some (.int (b2 (okh b p = true))) ∧ u = S) := by
  refine EX.of mok_X_isHateByte (Nat.le_of_ble_eq_true rfl) ?_
  obtain ⟨x1, x2, x3⟩ := id hX
  have q1 := x3 p hp
  have q2 := x3 (p - 1) (by omega)
  refine run_ok 2 (c' := (2, [(0, .ref 1), (1, .int (nI p))], [.int (nI 4), .int (nI p)], S)) rfl ?_
  refine x_irem rfl (by decide) ?_
  refine x_top (v' := nI 3) (by rw [pk_rem (by omega) (by decide) (by decide), hr0]) ?_
  refine x_tabOut 83 rfl (Or.inr (by decide)) rfl ?_
  refine run_ok 3 (c' := (88, [(0, .ref 1), (1, .int (nI p))], [.int (nI p), .ref 2], S)) rfl ?_
  refine x_iaN (nI (b p)) rfl rfl (by decide) (by omega) (x2 p (by omega)) ?_
  refine run_ok 1 (c' := (91, [(0, .ref 1), (1, .int (nI p))], [.int (nI 59), .int (nI (b p))], S)) rfl ?_
  refine x_icmpN_ne 98 rfl rfl (by omega) (by omega) (fun h91 => ?_) (fun h91 => ?_)
  · refine run_ok 1 (c' := (99, [(0, .ref 1), (1, .int (nI p))], [.int (nI 0)], S)) rfl ?_
    exact x_ret (r := some (.int (nI 0))) rfl rfl (Or.inl rfl) ⟨congrArg (fun z => some (Value.int z)) (b2_f (by rw [(show okh b p = decide (b p = 59) from (if_neg (by omega)).trans ((if_neg (by omega)).trans (if_neg (by omega))))]; rw [decide_eq_false h91]; decide)).symm, rfl⟩ rfl
  · refine run_ok 2 (c' := (99, [(0, .ref 1), (1, .int (nI p))], [.int (nI 1)], S)) rfl ?_
    exact x_ret (r := some (.int (nI 1))) rfl rfl (Or.inr rfl) ⟨congrArg (fun z => some (Value.int z)) (b2_t (by rw [(show okh b p = decide (b p = 59) from (if_neg (by omega)).trans ((if_neg (by omega)).trans (if_neg (by omega))))]; exact decide_eq_true (h91))).symm, rfl⟩ rfl

theorem c_hb (S : ST) (n : Nat) (b : Nat → Nat) (hX : XR 1 n b S) (hn : n ≤ 47) (p : Nat) (hp : p < n) : EX me_X_isHateByte 1 [.ref 1, .int (nI p)] S (fun r u => r = some (.int (b2 (okh b p = true))) ∧ u = S) := by
  rcases (show p % 4 = 0 ∨ p % 4 = 1 ∨ p % 4 = 2 ∨ p % 4 = 3 by omega) with h | h | h | h
  · exact c_hb0 S n b hX hn p hp h
  · exact c_hb1 S n b hX hn p hp h
  · exact c_hb2 S n b hX hn p hp h
  · exact c_hb3 S n b hX hn p hp h
theorem c_sortOf_l (S : ST) : EX me_X_sortOf 0 [.int (nI 108)] S (fun r u => r = some (.int (nI 0)) ∧ u = S) := by
  refine EX.of mok_X_sortOf (Nat.le_of_ble_eq_true rfl) ?_
  refine run_ok 1 (c' := (1, [(0, .int (nI 108))], [.int (nI 108)], S)) rfl ?_
  refine x_lookup (off := 35) 36 rfl (by decide) (by decide) rfl ?_
  refine run_ok 1 (c' := (37, [(0, .int (nI 108))], [.int (nI 0)], S)) rfl ?_
  exact x_ret (r := some (.int (nI 0))) rfl rfl trivial ⟨rfl, rfl⟩ rfl
theorem c_sortOf_s (S : ST) : EX me_X_sortOf 0 [.int (nI 115)] S (fun r u => r = some (.int (nI 1)) ∧ u = S) := by
  refine EX.of mok_X_sortOf (Nat.le_of_ble_eq_true rfl) ?_
  refine run_ok 1 (c' := (1, [(0, .int (nI 115))], [.int (nI 115)], S)) rfl ?_
  refine x_lookup (off := 37) 38 rfl (by decide) (by decide) rfl ?_
  refine run_ok 1 (c' := (39, [(0, .int (nI 115))], [.int (nI 1)], S)) rfl ?_
  exact x_ret (r := some (.int (nI 1))) rfl rfl trivial ⟨rfl, rfl⟩ rfl
theorem c_sortOf_t (S : ST) : EX me_X_sortOf 0 [.int (nI 116)] S (fun r u => r = some (.int (nI 2)) ∧ u = S) := by
  refine EX.of mok_X_sortOf (Nat.le_of_ble_eq_true rfl) ?_
  refine run_ok 1 (c' := (1, [(0, .int (nI 116))], [.int (nI 116)], S)) rfl ?_
  refine x_lookup (off := 39) 40 rfl (by decide) (by decide) rfl ?_
  refine run_ok 1 (c' := (41, [(0, .int (nI 116))], [.int (nI 2)], S)) rfl ?_
  exact x_ret (r := some (.int (nI 2))) rfl rfl trivial ⟨rfl, rfl⟩ rfl
theorem c_sortOf_n (S : ST) (x : Int32) (h1 : ¬ x = nI 108) (h2 : ¬ x = nI 115) (h3 : ¬ x = nI 116) : EX me_X_sortOf 0 [.int x] S (fun r u => r = some (.int (-1)) ∧ u = S) := by
  refine EX.of mok_X_sortOf (Nat.le_of_ble_eq_true rfl) ?_
  refine run_ok 1 (c' := (1, [(0, .int x)], [.int x], S)) rfl ?_
  refine x_lookup (off := 41) 42 rfl (by decide) ?_ rfl ?_
  · show Op.lookupswitch.offset [(108, 35), (115, 37), (116, 39)] 41 x.toInt = 41
    rw [lv_osw h1 (by decide), lv_osw h2 (by decide), lv_osw h3 (by decide)]
    rfl
  refine run_ok 1 (c' := (43, [(0, .int x)], [.int (-1)], S)) rfl ?_
  exact x_ret (r := some (.int (-1))) rfl rfl trivial ⟨rfl, rfl⟩ rfl
theorem c_sortOf (S : ST) (x : Nat) (hx : x < 256) : EX me_X_sortOf 0 [.int (nI x)] S (fun r u => r = some (.int (spv (sof x))) ∧ u = S) := by
  by_cases h1 : x = 108
  · subst h1; exact c_sortOf_l S
  by_cases h2 : x = 115
  · subst h2; exact c_sortOf_s S
  by_cases h3 : x = 116
  · subst h3; exact c_sortOf_t S
  rw [show sof x = none from (if_neg h1).trans ((if_neg h2).trans (if_neg h3))]
  exact c_sortOf_n S (nI x) (fun z => h1 ((nI_eqI (by omega) (by decide)).mp z)) (fun z => h2 ((nI_eqI (by omega) (by decide)).mp z)) (fun z => h3 ((nI_eqI (by omega) (by decide)).mp z))
theorem sof_lt {x m : Nat} (h : sof x = some m) : m ≤ 2 := by
  unfold sof at h
  split at h
  · cases h; decide
  · split at h
    · cases h; decide
    · split at h
      · cases h; decide
      · cases h
set_option maxHeartbeats 2000000 in
theorem c_bb0 (S : ST) (n : Nat) (b : Nat → Nat) (hX : XR 3 n b S) (hn : n ≤ 39) (p : Nat) (hp : p < n) (hr0 : p % 5 = 0) : EX me_X_isBoatByte 1 [.ref 3, .int (nI p)] S (fun r u => r = some (.int (b2 (okb b p = true))) ∧ u = S) := by
  refine EX.of mok_X_isBoatByte (Nat.le_of_ble_eq_true rfl) ?_
  obtain ⟨x1, x2, x3⟩ := id hX
  have q1 := x3 p hp
  refine run_ok 2 (c' := (2, [(0, .ref 3), (1, .int (nI p))], [.int (nI 5), .int (nI p)], S)) rfl ?_
  refine x_irem rfl (by decide) ?_
  refine x_top (v' := nI 0) (by rw [pk_rem (by omega) (by decide) (by decide), hr0]) ?_
  refine x_tabIn 32 rfl (by decide) (by decide) rfl rfl ?_
  refine run_ok 3 (c' := (37, [(0, .ref 3), (1, .int (nI p))], [.int (nI p), .ref 4], S)) rfl ?_
  refine x_iaN (nI (b p)) rfl rfl (by decide) (by omega) (x2 p (by omega)) ?_
  refine x_callS [.int (nI (b p))] rfl cs_X_sortOf.1 lk_4_37 cs_X_sortOf.2.1 rfl rfl (Nat.le_of_ble_eq_true rfl) (by decide) cs_X_sortOf.2.2 (c_sortOf S (b p) q1) ?_
  rintro r u ⟨hr, hu⟩
  rw [hr, hu]
  clear hr hu r u
  refine run_ok 1 (c' := (42, [(0, .ref 3), (1, .int (nI p))], [.int (-1), .int (spv (sof (b p)))], S)) rfl ?_
  refine x_icmp_eq 49 rfl rfl (fun h42 => ?_) (fun h42 => ?_)
  · refine run_ok 1 (c' := (50, [(0, .ref 3), (1, .int (nI p))], [.int (nI 0)], S)) rfl ?_
    exact x_ret (r := some (.int (nI 0))) rfl rfl (Or.inl rfl) ⟨congrArg (fun z => some (Value.int z)) (b2_f (by rw [(show okb b p = (sof (b p)).isSome from if_pos hr0), (spv_n1 (fun m hm => by have := sof_lt hm; omega)).mp h42]; decide)).symm, rfl⟩ rfl
  · refine run_ok 2 (c' := (50, [(0, .ref 3), (1, .int (nI p))], [.int (nI 1)], S)) rfl ?_
    exact x_ret (r := some (.int (nI 1))) rfl rfl (Or.inr rfl) ⟨congrArg (fun z => some (Value.int z)) (b2_t (by rw [(show okb b p = (sof (b p)).isSome from if_pos hr0)]; exact Option.isSome_iff_ne_none.mpr (fun z => h42 ((spv_n1 (fun m hm => by have := sof_lt hm; omega)).mpr z)))).symm, rfl⟩ rfl

set_option maxHeartbeats 2000000 in
theorem c_bb1 (S : ST) (n : Nat) (b : Nat → Nat) (hX : XR 3 n b S) (hn : n ≤ 39) (p : Nat) (hp : p < n) (hr0 : p % 5 = 1) : EX me_X_isBoatByte 1 [.ref 3, .int (nI p)] S (fun r u => r = some (.int (b2 (okb b p = true))) ∧ u = S) := by
  refine EX.of mok_X_isBoatByte (Nat.le_of_ble_eq_true rfl) ?_
  obtain ⟨x1, x2, x3⟩ := id hX
  have q1 := x3 p hp
  refine run_ok 2 (c' := (2, [(0, .ref 3), (1, .int (nI p))], [.int (nI 5), .int (nI p)], S)) rfl ?_
  refine x_irem rfl (by decide) ?_
  refine x_top (v' := nI 1) (by rw [pk_rem (by omega) (by decide) (by decide), hr0]) ?_
  refine x_tabIn 51 rfl (by decide) (by decide) rfl rfl ?_
  refine run_ok 4 (c' := (57, [(0, .ref 3), (1, .int (nI p))], [.int (nI 55), .int (nI 48), .int (nI p), .ref 3], S)) rfl ?_
  refine x_callV [.int (nI p), .int (nI 48), .int (nI 55)] rfl cv_X_has.1 lk_4_33 cv_X_has.2.1 cv_X_has.2.2.1 rfl cv_X_has.2.2.2.1 rfl rfl (Nat.le_of_ble_eq_true rfl) (by decide) cv_X_has.2.2.2.2 (c_has1 S n b hX hn p 48 55 hp (by decide) (by decide)) ?_
  rintro r u ⟨hr, hu⟩
  rw [hr, hu]
  clear hr hu r u
  exact x_ret (r := some (.int (b2 (48 ≤ b p ∧ b p ≤ 55)))) rfl rfl (b2_01 _) ⟨congrArg (fun z => some (Value.int z)) (b2_c (by rw [(show okb b p = decide (48 ≤ b p ∧ b p ≤ 55) from (if_neg (by omega)).trans (if_pos hr0))]; simp)), rfl⟩ rfl

set_option maxHeartbeats 2000000 in
theorem c_bb2 (S : ST) (n : Nat) (b : Nat → Nat) (hX : XR 3 n b S) (hn : n ≤ 39) (p : Nat) (hp : p < n) (hr0 : p % 5 = 2) : EX me_X_isBoatByte 1 [.ref 3, .int (nI p)] S (fun r u => r = some (.int (b2 (okb b p = true))) ∧ u = S) := by
  refine EX.of mok_X_isBoatByte (Nat.le_of_ble_eq_true rfl) ?_
  obtain ⟨x1, x2, x3⟩ := id hX
  have q1 := x3 p hp
  refine run_ok 2 (c' := (2, [(0, .ref 3), (1, .int (nI p))], [.int (nI 5), .int (nI p)], S)) rfl ?_
  refine x_irem rfl (by decide) ?_
  refine x_top (v' := nI 2) (by rw [pk_rem (by omega) (by decide) (by decide), hr0]) ?_
  refine x_tabIn 61 rfl (by decide) (by decide) rfl rfl ?_
  refine run_ok 4 (c' := (67, [(0, .ref 3), (1, .int (nI p))], [.int (nI 120), .int (nI 97), .int (nI p), .ref 3], S)) rfl ?_
  refine x_callV [.int (nI p), .int (nI 97), .int (nI 120)] rfl cv_X_has.1 lk_4_33 cv_X_has.2.1 cv_X_has.2.2.1 rfl cv_X_has.2.2.2.1 rfl rfl (Nat.le_of_ble_eq_true rfl) (by decide) cv_X_has.2.2.2.2 (c_has1 S n b hX hn p 97 120 hp (by decide) (by decide)) ?_
  rintro r u ⟨hr, hu⟩
  rw [hr, hu]
  clear hr hu r u
  exact x_ret (r := some (.int (b2 (97 ≤ b p ∧ b p ≤ 120)))) rfl rfl (b2_01 _) ⟨congrArg (fun z => some (Value.int z)) (b2_c (by rw [(show okb b p = decide (97 ≤ b p ∧ b p ≤ 120) from (if_neg (by omega)).trans ((if_neg (by omega)).trans (if_pos hr0)))]; simp)), rfl⟩ rfl

set_option maxHeartbeats 2000000 in
theorem c_bb3 (S : ST) (n : Nat) (b : Nat → Nat) (hX : XR 3 n b S) (hn : n ≤ 39) (p : Nat) (hp : p < n) (hr0 : p % 5 = 3) : EX me_X_isBoatByte 1 [.ref 3, .int (nI p)] S (fun r u => r = some (.int (b2 (okb b p = true))) ∧ u = S) := by
  refine EX.of mok_X_isBoatByte (Nat.le_of_ble_eq_true rfl) ?_
  obtain ⟨x1, x2, x3⟩ := id hX
  have q1 := x3 p hp
  refine run_ok 2 (c' := (2, [(0, .ref 3), (1, .int (nI p))], [.int (nI 5), .int (nI p)], S)) rfl ?_
  refine x_irem rfl (by decide) ?_
  refine x_top (v' := nI 3) (by rw [pk_rem (by omega) (by decide) (by decide), hr0]) ?_
  refine x_tabIn 71 rfl (by decide) (by decide) rfl rfl ?_
  refine run_ok 4 (c' := (77, [(0, .ref 3), (1, .int (nI p))], [.int (nI 57), .int (nI 49), .int (nI p), .ref 3], S)) rfl ?_
  refine x_callV [.int (nI p), .int (nI 49), .int (nI 57)] rfl cv_X_has.1 lk_4_33 cv_X_has.2.1 cv_X_has.2.2.1 rfl cv_X_has.2.2.2.1 rfl rfl (Nat.le_of_ble_eq_true rfl) (by decide) cv_X_has.2.2.2.2 (c_has1 S n b hX hn p 49 57 hp (by decide) (by decide)) ?_
  rintro r u ⟨hr, hu⟩
  rw [hr, hu]
  clear hr hu r u
  exact x_ret (r := some (.int (b2 (49 ≤ b p ∧ b p ≤ 57)))) rfl rfl (b2_01 _) ⟨congrArg (fun z => some (Value.int z)) (b2_c (by rw [(show okb b p = decide (49 ≤ b p ∧ b p ≤ 57) from (if_neg (by omega)).trans ((if_neg (by omega)).trans ((if_neg (by omega)).trans (if_pos hr0))))]; simp)), rfl⟩ rfl

set_option maxHeartbeats 2000000 in
theorem c_bb4 (S : ST) (n : Nat) (b : Nat → Nat) (hX : XR 3 n b S) (hn : n ≤ 39) (p : Nat) (hp : p < n) (hr0 : p % 5 = 4) : EX me_X_isBoatByte 1 [.ref 3, .int (nI p)] S (fun r u => r = some (.int (b2 (okb b p = true))) ∧ u = S) := by
  refine EX.of mok_X_isBoatByte (Nat.le_of_ble_eq_true rfl) ?_
  obtain ⟨x1, x2, x3⟩ := id hX
  have q1 := x3 p hp
  refine run_ok 2 (c' := (2, [(0, .ref 3), (1, .int (nI p))], [.int (nI 5), .int (nI p)], S)) rfl ?_
  refine x_irem rfl (by decide) ?_
  refine x_top (v' := nI 4) (by rw [pk_rem (by omega) (by decide) (by decide), hr0]) ?_
  refine x_tabOut 81 rfl (Or.inr (by decide)) rfl ?_
  refine run_ok 3 (c' := (86, [(0, .ref 3), (1, .int (nI p))], [.int (nI p), .ref 4], S)) rfl ?_
  refine x_iaN (nI (b p)) rfl rfl (by decide) (by omega) (x2 p (by omega)) ?_
  refine run_ok 1 (c' := (89, [(0, .ref 3), (1, .int (nI p))], [.int (nI 59), .int (nI (b p))], S)) rfl ?_
  refine x_icmpN_ne 96 rfl rfl (by omega) (by omega) (fun h89 => ?_) (fun h89 => ?_)
  · refine run_ok 1 (c' := (97, [(0, .ref 3), (1, .int (nI p))], [.int (nI 0)], S)) rfl ?_
    exact x_ret (r := some (.int (nI 0))) rfl rfl (Or.inl rfl) ⟨congrArg (fun z => some (Value.int z)) (b2_f (by rw [(show okb b p = decide (b p = 59) from (if_neg (by omega)).trans ((if_neg (by omega)).trans ((if_neg (by omega)).trans (if_neg (by omega))))), decide_eq_false h89]; decide)).symm, rfl⟩ rfl
  · refine run_ok 2 (c' := (97, [(0, .ref 3), (1, .int (nI p))], [.int (nI 1)], S)) rfl ?_
    exact x_ret (r := some (.int (nI 1))) rfl rfl (Or.inr rfl) ⟨congrArg (fun z => some (Value.int z)) (b2_t (by rw [(show okb b p = decide (b p = 59) from (if_neg (by omega)).trans ((if_neg (by omega)).trans ((if_neg (by omega)).trans (if_neg (by omega)))))]; exact decide_eq_true h89)).symm, rfl⟩ rfl

theorem c_bb (S : ST) (n : Nat) (b : Nat → Nat) (hX : XR 3 n b S) (hn : n ≤ 39) (p : Nat) (hp : p < n) : EX me_X_isBoatByte 1 [.ref 3, .int (nI p)] S (fun r u => r = some (.int (b2 (okb b p = true))) ∧ u = S) := by
  rcases (show p % 5 = 0 ∨ p % 5 = 1 ∨ p % 5 = 2 ∨ p % 5 = 3 ∨ p % 5 = 4 by omega) with h | h | h | h | h
  · exact c_bb0 S n b hX hn p hp h
  · exact c_bb1 S n b hX hn p hp h
  · exact c_bb2 S n b hX hn p hp h
  · exact c_bb3 S n b hX hn p hp h
  · exact c_bb4 S n b hX hn p hp h
set_option maxHeartbeats 2000000 in
theorem c_findFault0 (S : ST) (n : Nat) (b : Nat → Nat) (hX : XR 1 n b S) (hn : n ≤ 47) : EX me_X_findHatesFault 2 [.ref 1] S (fun r u => r = none ∧ u = pt S 1 2 (spv (flt (okh b) 4 n))) := by
  refine EX.of mok_X_findHatesFault (Nat.le_of_ble_eq_true rfl) ?_
  obtain ⟨x1, x2, x3⟩ := id hX
  have H : ∀ j, j ≤ n → fl (okh b) n 0 = fl (okh b) (n - j) j → BX me_X_findHatesFault 2 none (fun r u => r = none ∧ u = pt S 1 2 (spv (flt (okh b) 4 n))) (2, [(0, .ref 1), (1, .int (nI j))], [], S) := by
    refine loop_up (P := fun j => fl (okh b) n 0 = fl (okh b) (n - j) j → BX me_X_findHatesFault 2 none (fun r u => r = none ∧ u = pt S 1 2 (spv (flt (okh b) 4 n))) (2, [(0, .ref 1), (1, .int (nI j))], [], S)) n ?_ ?_
    · intro hs
      refine run_ok 3 (c' := (7, [(0, .ref 1), (1, .int (nI n))], [.int (S.1 1 1), .int (nI n)], S)) rfl ?_
      refine x_top (v' := nI n) x1 ?_
      refine x_icmpN_ge 30 rfl rfl (by omega) (by omega) (fun h7 => ?_) (fun hn => absurd (Nat.le_refl _) hn)
      refine run_ok 3 (c' := (33, [(0, .ref 1), (1, .int (nI n))], [.int (nI 4), .ref 1, .ref 1], S)) rfl ?_
      refine x_callV [.int (nI 4)] rfl cv_X_faultOfEnd.1 lk_4_26 cv_X_faultOfEnd.2.1 cv_X_faultOfEnd.2.2.1 rfl cv_X_faultOfEnd.2.2.2.1 rfl rfl (Nat.le_of_ble_eq_true rfl) (by decide) cv_X_faultOfEnd.2.2.2.2 (c_faultEnd0 S n b hX hn) ?_
      rintro r u ⟨hr, hu⟩
      rw [hr, hu]
      clear hr hu r u
      refine run_ok 1 (c' := (39, [(0, .ref 1), (1, .int (nI n))], [], (pt S 1 2 (spv (if n = 0 ∨ n % 4 = 4 - 1 then none else some n))))) rfl ?_
      exact x_ret (r := none) rfl rfl trivial ⟨rfl, by rw [show flt (okh b) 4 n = (if n = 0 ∨ n % 4 = 4 - 1 then none else some n) by unfold flt; rw [hs, Nat.sub_self]; rfl]⟩ rfl
    · intro j hj ih hs
      refine run_ok 3 (c' := (7, [(0, .ref 1), (1, .int (nI j))], [.int (S.1 1 1), .int (nI j)], S)) rfl ?_
      refine x_top (v' := nI n) x1 ?_
      refine x_icmpN_ge 30 rfl rfl (by omega) (by omega) (fun hn => absurd hn (show ¬ n ≤ j by omega)) (fun h7 => ?_)
      refine run_ok 2 (c' := (12, [(0, .ref 1), (1, .int (nI j))], [.int (nI j), .ref 1], S)) rfl ?_
      refine x_callV [.int (nI j)] rfl cv_X_isHateByte.1 lk_4_22 cv_X_isHateByte.2.1 cv_X_isHateByte.2.2.1 rfl cv_X_isHateByte.2.2.2.1 rfl rfl (Nat.le_of_ble_eq_true rfl) (by decide) cv_X_isHateByte.2.2.2.2 (c_hb S n b hX hn j hj) ?_
      rintro r u ⟨hr, hu⟩
      rw [hr, hu]
      clear hr hu r u
      refine x_ifB_ne 24 rfl rfl (fun h15 => ?_) (fun h15 => ?_)
      · refine run_ok 1 (c' := (27, [(0, .ref 1), (1, .int (nI j + nI 1))], [], S)) rfl ?_
        rw [nI_add j 1]
        refine run_ok 1 (c' := (2, [(0, .ref 1), (1, .int (nI (j + 1)))], [], S)) rfl ?_
        exact ih (by rw [hs, show n - j = (n - (j + 1)) + 1 by omega]; exact if_pos h15)
      · refine run_ok 3 (c' := (23, [(0, .ref 1), (1, .int (nI j))], [], (pt S 1 2 (nI j)))) rfl ?_
        exact x_ret (r := none) rfl rfl trivial ⟨rfl, by rw [show flt (okh b) 4 n = some j by unfold flt; rw [hs, show n - j = (n - (j + 1)) + 1 by omega, show fl (okh b) (n - (j + 1) + 1) j = some j from if_neg h15]]; rfl⟩ rfl
  refine run_ok 2 (c' := (2, [(0, .ref 1), (1, .int (nI 0))], [], S)) rfl ?_
  exact H 0 (Nat.zero_le _) rfl

set_option maxHeartbeats 2000000 in
theorem c_findFault1 (S : ST) (n : Nat) (b : Nat → Nat) (hX : XR 3 n b S) (hn : n ≤ 39) : EX me_X_findBoatsFault 2 [.ref 3] S (fun r u => r = none ∧ u = pt S 3 2 (spv (flt (okb b) 5 n))) := by
  refine EX.of mok_X_findBoatsFault (Nat.le_of_ble_eq_true rfl) ?_
  obtain ⟨x1, x2, x3⟩ := id hX
  have H : ∀ j, j ≤ n → fl (okb b) n 0 = fl (okb b) (n - j) j → BX me_X_findBoatsFault 2 none (fun r u => r = none ∧ u = pt S 3 2 (spv (flt (okb b) 5 n))) (2, [(0, .ref 3), (1, .int (nI j))], [], S) := by
    refine loop_up (P := fun j => fl (okb b) n 0 = fl (okb b) (n - j) j → BX me_X_findBoatsFault 2 none (fun r u => r = none ∧ u = pt S 3 2 (spv (flt (okb b) 5 n))) (2, [(0, .ref 3), (1, .int (nI j))], [], S)) n ?_ ?_
    · intro hs
      refine run_ok 3 (c' := (7, [(0, .ref 3), (1, .int (nI n))], [.int (S.1 3 1), .int (nI n)], S)) rfl ?_
      refine x_top (v' := nI n) x1 ?_
      refine x_icmpN_ge 30 rfl rfl (by omega) (by omega) (fun h7 => ?_) (fun hn => absurd (Nat.le_refl _) hn)
      refine run_ok 3 (c' := (33, [(0, .ref 3), (1, .int (nI n))], [.int (nI 5), .ref 3, .ref 3], S)) rfl ?_
      refine x_callV [.int (nI 5)] rfl cv_X_faultOfEnd.1 lk_4_26 cv_X_faultOfEnd.2.1 cv_X_faultOfEnd.2.2.1 rfl cv_X_faultOfEnd.2.2.2.1 rfl rfl (Nat.le_of_ble_eq_true rfl) (by decide) cv_X_faultOfEnd.2.2.2.2 (c_faultEnd1 S n b hX hn) ?_
      rintro r u ⟨hr, hu⟩
      rw [hr, hu]
      clear hr hu r u
      refine run_ok 1 (c' := (39, [(0, .ref 3), (1, .int (nI n))], [], (pt S 3 2 (spv (if n = 0 ∨ n % 5 = 5 - 1 then none else some n))))) rfl ?_
      exact x_ret (r := none) rfl rfl trivial ⟨rfl, by rw [show flt (okb b) 5 n = (if n = 0 ∨ n % 5 = 5 - 1 then none else some n) by unfold flt; rw [hs, Nat.sub_self]; rfl]⟩ rfl
    · intro j hj ih hs
      refine run_ok 3 (c' := (7, [(0, .ref 3), (1, .int (nI j))], [.int (S.1 3 1), .int (nI j)], S)) rfl ?_
      refine x_top (v' := nI n) x1 ?_
      refine x_icmpN_ge 30 rfl rfl (by omega) (by omega) (fun hn => absurd hn (show ¬ n ≤ j by omega)) (fun h7 => ?_)
      refine run_ok 2 (c' := (12, [(0, .ref 3), (1, .int (nI j))], [.int (nI j), .ref 3], S)) rfl ?_
      refine x_callV [.int (nI j)] rfl cv_X_isBoatByte.1 lk_4_30 cv_X_isBoatByte.2.1 cv_X_isBoatByte.2.2.1 rfl cv_X_isBoatByte.2.2.2.1 rfl rfl (Nat.le_of_ble_eq_true rfl) (by decide) cv_X_isBoatByte.2.2.2.2 (c_bb S n b hX hn j hj) ?_
      rintro r u ⟨hr, hu⟩
      rw [hr, hu]
      clear hr hu r u
      refine x_ifB_ne 24 rfl rfl (fun h15 => ?_) (fun h15 => ?_)
      · refine run_ok 1 (c' := (27, [(0, .ref 3), (1, .int (nI j + nI 1))], [], S)) rfl ?_
        rw [nI_add j 1]
        refine run_ok 1 (c' := (2, [(0, .ref 3), (1, .int (nI (j + 1)))], [], S)) rfl ?_
        exact ih (by rw [hs, show n - j = (n - (j + 1)) + 1 by omega]; exact if_pos h15)
      · refine run_ok 3 (c' := (23, [(0, .ref 3), (1, .int (nI j))], [], (pt S 3 2 (nI j)))) rfl ?_
        exact x_ret (r := none) rfl rfl trivial ⟨rfl, by rw [show flt (okb b) 5 n = some j by unfold flt; rw [hs, show n - j = (n - (j + 1)) + 1 by omega, show fl (okb b) (n - (j + 1) + 1) j = some j from if_neg h15]]; rfl⟩ rfl
  refine run_ok 2 (c' := (2, [(0, .ref 3), (1, .int (nI 0))], [], S)) rfl ?_
  exact H 0 (Nat.zero_le _) rfl


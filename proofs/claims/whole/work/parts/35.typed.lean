/-! type, wipe, undo, fault, read of the class -/
/-- behind a change of the text of hates, of boats -/
def PH0 (S : ST) (n : Nat) (b : Nat → Nat) (u : ST) : Prop := XR 1 n b u ∧ rh u 6 64 (hzf b (hcn n b)) ∧ u.1 5 = upd (S.1 5) 1 (nI (hcn n b)) ∧ u.1 1 2 = spv (flt (okh b) 4 n) ∧ fr [1, 2, 5, 6] S u ∧ u.2 = S.2
def PH1 (S : ST) (n : Nat) (b : Nat → Nat) (u : ST) : Prop := XR 3 n b u ∧ (rh u 7 (bcn n b) (fun i => (sof (b (5 * i))).getD 0) ∧ rh u 8 (bcn n b) (fun i => b (5 * i + 1) - 48) ∧ rh u 9 (bcn n b) (fun i => b (5 * i + 2) - 97) ∧ rh u 10 (bcn n b) (fun i => b (5 * i + 3) - 48)) ∧ u.1 5 = upd (S.1 5) 6 (nI (bcn n b)) ∧ u.1 3 2 = spv (flt (okb b) 5 n) ∧ fr [3, 4, 5, 7, 8, 9, 10] S u ∧ u.2 = S.2
set_option maxHeartbeats 2000000 in
theorem c_hear0 (S : ST) (n : Nat) (b : Nat → Nat) (hX : XR 1 n b S) (hn : n ≤ 47) : EX me_N_hear 4 [.ref 0, .int (nI 0)] S (fun r u => r = none ∧ PH0 S n b u) := by
  refine EX.of mok_N_hear (Nat.le_of_ble_eq_true rfl) ?_
  obtain ⟨x1, x2, x3⟩ := id hX
  refine run_ok 1 (c' := (1, [(0, .ref 0), (1, .int (nI 0))], [.int (nI 0)], S)) rfl ?_
  refine x_ifN_ne 18 rfl rfl (by omega) (fun hn => absurd rfl hn) (fun h1 => ?_)
  refine run_ok 4 (c' := (12, [(0, .ref 0), (1, .int (nI 0))], [.ref 1, .ref 5], S)) rfl ?_
  refine x_callV [.ref 1] rfl cv_T_hearHates.1 lk_6_352 cv_T_hearHates.2.1 cv_T_hearHates.2.2.1 rfl cv_T_hearHates.2.2.2.1 rfl rfl (Nat.le_of_ble_eq_true rfl) (by decide) cv_T_hearHates.2.2.2.2 (c_hearHates S n b hX hn) ?_
  rintro r u ⟨hr, h6, h5, h1, hf, h2⟩
  rw [hr]
  clear hr r
  refine run_ok 1 (c' := (29, [(0, .ref 0), (1, .int (nI 0))], [], u)) rfl ?_
  exact x_ret (r := none) rfl rfl trivial ⟨rfl, ⟨by rw [h1]; exact x1, fun j hj => by rw [hf 2 (by decide)]; exact x2 j hj, x3⟩, h6, h5, by rw [h1]; rfl, hf.sub (by decide), h2⟩ rfl

set_option maxHeartbeats 2000000 in
theorem c_textOf0 (S : ST) : EX me_N_textOf 0 [.ref 0, .int (nI 0)] S (fun r u => r = some (.ref 1) ∧ u = S) := by
  refine EX.of mok_N_textOf (Nat.le_of_ble_eq_true rfl) ?_
  refine run_ok 1 (c' := (1, [(0, .ref 0), (1, .int (nI 0))], [.int (nI 0)], S)) rfl ?_
  refine x_ifN_ne 11 rfl rfl (by omega) (fun hn => absurd rfl hn) (fun h1 => ?_)
  refine run_ok 3 (c' := (15, [(0, .ref 0), (1, .int (nI 0))], [.ref 1], S)) rfl ?_
  exact x_ret (r := some (.ref 1)) rfl rfl trivial ⟨rfl, rfl⟩ rfl

set_option maxHeartbeats 2000000 in
theorem c_type_ok0 (S : ST) (n : Nat) (b : Nat → Nat) (hX : XR 1 n b S) (hn : n ≤ 47) (c : Nat) (hc : c < 256) (hnc : ¬ n = 47) : EX me_N_type 5 [.ref 0, .int (nI 0), .int (nI c)] S (fun r u => r = some (.int (nI (n + 1))) ∧ PH0 S (n + 1) (upn b n c) u) := by
  refine EX.of mok_N_type (Nat.le_of_ble_eq_true rfl) ?_
  obtain ⟨x1, x2, x3⟩ := id hX
  refine run_ok 2 (c' := (2, [(0, .ref 0), (1, .int (nI 0)), (2, .int (nI c))], [.int (nI 2), .int (nI 0)], S)) rfl ?_
  refine x_callS [.int (nI 0), .int (nI 2)] rfl cs_N_isBelow.1 lk_6_73 cs_N_isBelow.2.1 rfl rfl (Nat.le_of_ble_eq_true rfl) (by decide) cs_N_isBelow.2.2 (c_isBelow S (nI 0) (nI 2)) ?_
  rintro r u ⟨hr, hu⟩
  rw [hr, hu]
  clear hr hu r u
  refine x_ifB_eq 18 rfl rfl (fun hn => absurd hn (fun z => z (inr_t (by decide) (by decide)))) (fun h5 => ?_)
  refine run_ok 2 (c' := (12, [(0, .ref 0), (1, .int (nI 0)), (2, .int (nI c))], [.int (nI 256), .int (nI c)], S)) rfl ?_
  refine x_callS [.int (nI c), .int (nI 256)] rfl cs_N_isBelow.1 lk_6_73 cs_N_isBelow.2.1 rfl rfl (Nat.le_of_ble_eq_true rfl) (by decide) cs_N_isBelow.2.2 (c_isBelow S (nI c) (nI 256)) ?_
  rintro r u ⟨hr, hu⟩
  rw [hr, hu]
  clear hr hu r u
  refine x_ifB_ne 21 rfl rfl (fun h15 => ?_) (fun hn => absurd (inr_t hc (by decide)) hn)
  refine run_ok 2 (c' := (23, [(0, .ref 0), (1, .int (nI 0)), (2, .int (nI c))], [.int (nI 0), .ref 0], S)) rfl ?_
  refine x_callV [.int (nI 0)] rfl cv_N_textOf.1 lk_6_77 cv_N_textOf.2.1 cv_N_textOf.2.2.1 rfl cv_N_textOf.2.2.2.1 rfl rfl (Nat.le_of_ble_eq_true rfl) (by decide) cv_N_textOf.2.2.2.2 (c_textOf0 S) ?_
  rintro r x ⟨hr, hu⟩
  rw [hr, hu]
  clear hr hu r x
  refine run_ok 2 (c' := (28, [(0, .ref 0), (1, .int (nI 0)), (2, .int (nI c)), (3, .ref 1)], [.ref 1], S)) rfl ?_
  refine x_callV [] rfl cv_X_isFull.1 lk_6_81 cv_X_isFull.2.1 cv_X_isFull.2.2.1 rfl cv_X_isFull.2.2.2.1 rfl rfl (Nat.le_of_ble_eq_true rfl) (by decide) cv_X_isFull.2.2.2.2 (c_isFull0 S n b hX hn) ?_
  rintro r x ⟨hr, hu⟩
  rw [hr, hu]
  clear hr hu r x
  refine x_ifB_eq 37 rfl rfl (fun h31 => ?_) (fun hn => absurd hn (show ¬ n = 47 by omega))
  refine run_ok 2 (c' := (39, [(0, .ref 0), (1, .int (nI 0)), (2, .int (nI c)), (3, .ref 1)], [.int (nI c), .ref 1], S)) rfl ?_
  refine x_callV [.int (nI c)] rfl cv_X_append.1 lk_6_85 cv_X_append.2.1 cv_X_append.2.2.1 rfl cv_X_append.2.2.2.1 rfl rfl (Nat.le_of_ble_eq_true rfl) (by decide) cv_X_append.2.2.2.2 (c_xappend0 S n b hX (by omega) c hc) ?_
  rintro r v ⟨hr, hXv, hfv, h2v⟩
  rw [hr]
  clear hr r
  refine run_ok 2 (c' := (44, [(0, .ref 0), (1, .int (nI 0)), (2, .int (nI c)), (3, .ref 1)], [.int (nI 0), .ref 0], v)) rfl ?_
  refine x_callV [.int (nI 0)] rfl cv_N_hear.1 lk_6_88 cv_N_hear.2.1 cv_N_hear.2.2.1 rfl cv_N_hear.2.2.2.1 rfl rfl (Nat.le_of_ble_eq_true rfl) (by decide) cv_N_hear.2.2.2.2 (c_hear0 v (n + 1) (upn b n c) hXv (by omega)) ?_
  rintro r z ⟨hr, hz⟩
  rw [hr]
  clear hr r
  have z1 := hz.1.1
  refine run_ok 2 (c' := (51, [(0, .ref 0), (1, .int (nI 0)), (2, .int (nI c)), (3, .ref 1)], [.int (z.1 1 1)], z)) rfl ?_
  refine x_top (v' := nI (n + 1)) z1 ?_
  exact x_ret (r := some (.int (nI (n + 1)))) rfl rfl trivial ⟨rfl, hz.1, hz.2.1, by rw [hz.2.2.1, hfv 5 (by decide)], hz.2.2.2.1, (hfv.sub (by decide)).tr hz.2.2.2.2.1, hz.2.2.2.2.2.trans h2v⟩ rfl

set_option maxHeartbeats 2000000 in
theorem c_type_full0 (S : ST) (n : Nat) (b : Nat → Nat) (hX : XR 1 n b S) (hn : n ≤ 47) (c : Nat) (hc : c < 256) (hnc : n = 47) : EX me_N_type 5 [.ref 0, .int (nI 0), .int (nI c)] S (fun r u => r = some (.int (-4)) ∧ u = S) := by
  refine EX.of mok_N_type (Nat.le_of_ble_eq_true rfl) ?_
  obtain ⟨x1, x2, x3⟩ := id hX
  refine run_ok 2 (c' := (2, [(0, .ref 0), (1, .int (nI 0)), (2, .int (nI c))], [.int (nI 2), .int (nI 0)], S)) rfl ?_
  refine x_callS [.int (nI 0), .int (nI 2)] rfl cs_N_isBelow.1 lk_6_73 cs_N_isBelow.2.1 rfl rfl (Nat.le_of_ble_eq_true rfl) (by decide) cs_N_isBelow.2.2 (c_isBelow S (nI 0) (nI 2)) ?_
  rintro r u ⟨hr, hu⟩
  rw [hr, hu]
  clear hr hu r u
  refine x_ifB_eq 18 rfl rfl (fun hn => absurd hn (fun z => z (inr_t (by decide) (by decide)))) (fun h5 => ?_)
  refine run_ok 2 (c' := (12, [(0, .ref 0), (1, .int (nI 0)), (2, .int (nI c))], [.int (nI 256), .int (nI c)], S)) rfl ?_
  refine x_callS [.int (nI c), .int (nI 256)] rfl cs_N_isBelow.1 lk_6_73 cs_N_isBelow.2.1 rfl rfl (Nat.le_of_ble_eq_true rfl) (by decide) cs_N_isBelow.2.2 (c_isBelow S (nI c) (nI 256)) ?_
  rintro r u ⟨hr, hu⟩
  rw [hr, hu]
  clear hr hu r u
  refine x_ifB_ne 21 rfl rfl (fun h15 => ?_) (fun hn => absurd (inr_t hc (by decide)) hn)
  refine run_ok 2 (c' := (23, [(0, .ref 0), (1, .int (nI 0)), (2, .int (nI c))], [.int (nI 0), .ref 0], S)) rfl ?_
  refine x_callV [.int (nI 0)] rfl cv_N_textOf.1 lk_6_77 cv_N_textOf.2.1 cv_N_textOf.2.2.1 rfl cv_N_textOf.2.2.2.1 rfl rfl (Nat.le_of_ble_eq_true rfl) (by decide) cv_N_textOf.2.2.2.2 (c_textOf0 S) ?_
  rintro r x ⟨hr, hu⟩
  rw [hr, hu]
  clear hr hu r x
  refine run_ok 2 (c' := (28, [(0, .ref 0), (1, .int (nI 0)), (2, .int (nI c)), (3, .ref 1)], [.ref 1], S)) rfl ?_
  refine x_callV [] rfl cv_X_isFull.1 lk_6_81 cv_X_isFull.2.1 cv_X_isFull.2.2.1 rfl cv_X_isFull.2.2.2.1 rfl rfl (Nat.le_of_ble_eq_true rfl) (by decide) cv_X_isFull.2.2.2.2 (c_isFull0 S n b hX hn) ?_
  rintro r x ⟨hr, hu⟩
  rw [hr, hu]
  clear hr hu r x
  refine x_ifB_eq 37 rfl rfl (fun hn => absurd hn (fun z => z hnc)) (fun h31 => ?_)
  refine run_ok 1 (c' := (36, [(0, .ref 0), (1, .int (nI 0)), (2, .int (nI c)), (3, .ref 1)], [.int (-4)], S)) rfl ?_
  exact x_ret (r := some (.int (-4))) rfl rfl trivial ⟨rfl, rfl⟩ rfl

set_option maxHeartbeats 2000000 in
theorem c_wipe_ok0 (S : ST) (n : Nat) (b : Nat → Nat) (hX : XR 1 n b S) (hn : n ≤ 47) : EX me_N_wipe 5 [.ref 0, .int (nI 0)] S (fun r u => r = some (.int (nI n)) ∧ PH0 S 0 b u) := by
  refine EX.of mok_N_wipe (Nat.le_of_ble_eq_true rfl) ?_
  obtain ⟨x1, x2, x3⟩ := id hX
  refine run_ok 2 (c' := (2, [(0, .ref 0), (1, .int (nI 0))], [.int (nI 2), .int (nI 0)], S)) rfl ?_
  refine x_callS [.int (nI 0), .int (nI 2)] rfl cs_N_isBelow.1 lk_6_73 cs_N_isBelow.2.1 rfl rfl (Nat.le_of_ble_eq_true rfl) (by decide) cs_N_isBelow.2.2 (c_isBelow S (nI 0) (nI 2)) ?_
  rintro r u ⟨hr, hu⟩
  rw [hr, hu]
  clear hr hu r u
  refine x_ifB_ne 11 rfl rfl (fun h5 => ?_) (fun hn => absurd (inr_t (by decide) (by decide)) hn)
  refine run_ok 2 (c' := (13, [(0, .ref 0), (1, .int (nI 0))], [.int (nI 0), .ref 0], S)) rfl ?_
  refine x_callV [.int (nI 0)] rfl cv_N_textOf.1 lk_6_77 cv_N_textOf.2.1 cv_N_textOf.2.2.1 rfl cv_N_textOf.2.2.2.1 rfl rfl (Nat.le_of_ble_eq_true rfl) (by decide) cv_N_textOf.2.2.2.2 (c_textOf0 S) ?_
  rintro r x ⟨hr, hu⟩
  rw [hr, hu]
  clear hr hu r x
  refine run_ok 3 (c' := (21, [(0, .ref 0), (1, .int (nI 0)), (2, .ref 1)], [.int (S.1 1 1)], S)) rfl ?_
  refine x_top (v' := nI n) x1 ?_
  refine run_ok 6 (c' := (29, [(0, .ref 0), (1, .int (nI 0)), (2, .ref 1), (3, .int (nI n))], [.int (nI 0), .ref 0], (pt S 1 1 (nI 0)))) rfl ?_
  refine x_callV [.int (nI 0)] rfl cv_N_hear.1 lk_6_88 cv_N_hear.2.1 cv_N_hear.2.2.1 rfl cv_N_hear.2.2.2.1 rfl rfl (Nat.le_of_ble_eq_true rfl) (by decide) cv_N_hear.2.2.2.2 (c_hear0 (pt S 1 1 (nI 0)) (0) (b) (show XR 1 0 b (pt S 1 1 (nI 0)) from ⟨rfl, fun j hj => absurd hj (Nat.not_lt_zero _), fun j hj => absurd hj (Nat.not_lt_zero _)⟩) (by omega)) ?_
  rintro r z ⟨hr, hz⟩
  rw [hr]
  clear hr r
  have z1 := hz.1.1
  refine run_ok 1 (c' := (33, [(0, .ref 0), (1, .int (nI 0)), (2, .ref 1), (3, .int (nI n))], [.int (nI n)], z)) rfl ?_
  exact x_ret (r := some (.int (nI n))) rfl rfl trivial ⟨rfl, hz.1, hz.2.1, hz.2.2.1, hz.2.2.2.1, (fr.rf.pt (by decide)).tr hz.2.2.2.2.1, hz.2.2.2.2.2⟩ rfl

set_option maxHeartbeats 2000000 in
theorem c_undo_not0 (S : ST) (n : Nat) (b : Nat → Nat) (hX : XR 1 n b S) (hn : n ≤ 47) (hn0 : n = 0) : EX me_N_undo 5 [.ref 0, .int (nI 0)] S (fun r u => r = some (.int (-3)) ∧ u = S) := by
  refine EX.of mok_N_undo (Nat.le_of_ble_eq_true rfl) ?_
  obtain ⟨x1, x2, x3⟩ := id hX
  refine run_ok 2 (c' := (2, [(0, .ref 0), (1, .int (nI 0))], [.int (nI 2), .int (nI 0)], S)) rfl ?_
  refine x_callS [.int (nI 0), .int (nI 2)] rfl cs_N_isBelow.1 lk_6_73 cs_N_isBelow.2.1 rfl rfl (Nat.le_of_ble_eq_true rfl) (by decide) cs_N_isBelow.2.2 (c_isBelow S (nI 0) (nI 2)) ?_
  rintro r u ⟨hr, hu⟩
  rw [hr, hu]
  clear hr hu r u
  refine x_ifB_ne 11 rfl rfl (fun h5 => ?_) (fun hn => absurd (inr_t (by decide) (by decide)) hn)
  refine run_ok 2 (c' := (13, [(0, .ref 0), (1, .int (nI 0))], [.int (nI 0), .ref 0], S)) rfl ?_
  refine x_callV [.int (nI 0)] rfl cv_N_textOf.1 lk_6_77 cv_N_textOf.2.1 cv_N_textOf.2.2.1 rfl cv_N_textOf.2.2.2.1 rfl rfl (Nat.le_of_ble_eq_true rfl) (by decide) cv_N_textOf.2.2.2.2 (c_textOf0 S) ?_
  rintro r x ⟨hr, hu⟩
  rw [hr, hu]
  clear hr hu r x
  refine run_ok 3 (c' := (21, [(0, .ref 0), (1, .int (nI 0)), (2, .ref 1)], [.int (S.1 1 1)], S)) rfl ?_
  refine x_top (v' := nI n) x1 ?_
  refine x_ifN_ne 27 rfl rfl (by omega) (fun hn => absurd hn0 hn) (fun h21 => ?_)
  refine run_ok 1 (c' := (26, [(0, .ref 0), (1, .int (nI 0)), (2, .ref 1)], [.int (-3)], S)) rfl ?_
  exact x_ret (r := some (.int (-3))) rfl rfl trivial ⟨rfl, rfl⟩ rfl

set_option maxHeartbeats 2000000 in
theorem c_undo_ok0 (S : ST) (n : Nat) (b : Nat → Nat) (hX : XR 1 n b S) (hn : n ≤ 47) (hn0 : ¬ n = 0) : EX me_N_undo 5 [.ref 0, .int (nI 0)] S (fun r u => r = some (.int (nI (n - 1))) ∧ PH0 S (n - 1) b u) := by
  refine EX.of mok_N_undo (Nat.le_of_ble_eq_true rfl) ?_
  obtain ⟨x1, x2, x3⟩ := id hX
  refine run_ok 2 (c' := (2, [(0, .ref 0), (1, .int (nI 0))], [.int (nI 2), .int (nI 0)], S)) rfl ?_
  refine x_callS [.int (nI 0), .int (nI 2)] rfl cs_N_isBelow.1 lk_6_73 cs_N_isBelow.2.1 rfl rfl (Nat.le_of_ble_eq_true rfl) (by decide) cs_N_isBelow.2.2 (c_isBelow S (nI 0) (nI 2)) ?_
  rintro r u ⟨hr, hu⟩
  rw [hr, hu]
  clear hr hu r u
  refine x_ifB_ne 11 rfl rfl (fun h5 => ?_) (fun hn => absurd (inr_t (by decide) (by decide)) hn)
  refine run_ok 2 (c' := (13, [(0, .ref 0), (1, .int (nI 0))], [.int (nI 0), .ref 0], S)) rfl ?_
  refine x_callV [.int (nI 0)] rfl cv_N_textOf.1 lk_6_77 cv_N_textOf.2.1 cv_N_textOf.2.2.1 rfl cv_N_textOf.2.2.2.1 rfl rfl (Nat.le_of_ble_eq_true rfl) (by decide) cv_N_textOf.2.2.2.2 (c_textOf0 S) ?_
  rintro r x ⟨hr, hu⟩
  rw [hr, hu]
  clear hr hu r x
  refine run_ok 3 (c' := (21, [(0, .ref 0), (1, .int (nI 0)), (2, .ref 1)], [.int (S.1 1 1)], S)) rfl ?_
  refine x_top (v' := nI n) x1 ?_
  refine x_ifN_ne 27 rfl rfl (by omega) (fun h21 => ?_) (fun hn => absurd hn hn0)
  refine run_ok 3 (c' := (32, [(0, .ref 0), (1, .int (nI 0)), (2, .ref 1)], [.int (S.1 1 1), .ref 1], S)) rfl ?_
  refine x_top (v' := nI n) x1 ?_
  refine run_ok 2 (c' := (34, [(0, .ref 0), (1, .int (nI 0)), (2, .ref 1)], [.int ((nI n) - (nI 1)), .ref 1], S)) rfl ?_
  refine x_top (v' := nI (n - 1)) (pk_sub (by omega)) ?_
  refine run_ok 3 (c' := (39, [(0, .ref 0), (1, .int (nI 0)), (2, .ref 1)], [.int (nI 0), .ref 0], (pt S 1 1 (nI (n - 1))))) rfl ?_
  refine x_callV [.int (nI 0)] rfl cv_N_hear.1 lk_6_88 cv_N_hear.2.1 cv_N_hear.2.2.1 rfl cv_N_hear.2.2.2.1 rfl rfl (Nat.le_of_ble_eq_true rfl) (by decide) cv_N_hear.2.2.2.2 (c_hear0 (pt S 1 1 (nI (n - 1))) (n - 1) (b) (show XR 1 (n - 1) b (pt S 1 1 (nI (n - 1))) from ⟨rfl, fun j hj => x2 j (by omega), fun j hj => x3 j (by omega)⟩) (by omega)) ?_
  rintro r z ⟨hr, hz⟩
  rw [hr]
  clear hr r
  have z1 := hz.1.1
  refine run_ok 2 (c' := (46, [(0, .ref 0), (1, .int (nI 0)), (2, .ref 1)], [.int (z.1 1 1)], z)) rfl ?_
  refine x_top (v' := nI (n - 1)) z1 ?_
  exact x_ret (r := some (.int (nI (n - 1)))) rfl rfl trivial ⟨rfl, hz.1, hz.2.1, hz.2.2.1, hz.2.2.2.1, (fr.rf.pt (by decide)).tr hz.2.2.2.2.1, hz.2.2.2.2.2⟩ rfl

set_option maxHeartbeats 2000000 in
theorem c_fault_ok0 (S : ST)  : EX me_N_fault 1 [.ref 0, .int (nI 0)] S (fun r u => r = some (.int (S.1 1 2)) ∧ u = S) := by
  refine EX.of mok_N_fault (Nat.le_of_ble_eq_true rfl) ?_
  refine run_ok 2 (c' := (2, [(0, .ref 0), (1, .int (nI 0))], [.int (nI 2), .int (nI 0)], S)) rfl ?_
  refine x_callS [.int (nI 0), .int (nI 2)] rfl cs_N_isBelow.1 lk_6_73 cs_N_isBelow.2.1 rfl rfl (Nat.le_of_ble_eq_true rfl) (by decide) cs_N_isBelow.2.2 (c_isBelow S (nI 0) (nI 2)) ?_
  rintro r u ⟨hr, hu⟩
  rw [hr, hu]
  clear hr hu r u
  refine x_ifB_eq 19 rfl rfl (fun hn => absurd hn (fun z => z (inr_t (by decide) (by decide)))) (fun h5 => ?_)
  refine run_ok 2 (c' := (10, [(0, .ref 0), (1, .int (nI 0))], [.int (nI 0), .ref 0], S)) rfl ?_
  refine x_callV [.int (nI 0)] rfl cv_N_textOf.1 lk_6_77 cv_N_textOf.2.1 cv_N_textOf.2.2.1 rfl cv_N_textOf.2.2.2.1 rfl rfl (Nat.le_of_ble_eq_true rfl) (by decide) cv_N_textOf.2.2.2.2 (c_textOf0 S) ?_
  rintro r x ⟨hr, hu⟩
  rw [hr, hu]
  clear hr hu r x
  refine run_ok 2 (c' := (21, [(0, .ref 0), (1, .int (nI 0))], [.int (S.1 1 2)], S)) rfl ?_
  exact x_ret (r := some (.int (S.1 1 2))) rfl rfl trivial ⟨rfl, rfl⟩ rfl

set_option maxHeartbeats 2000000 in
theorem c_hear1 (S : ST) (n : Nat) (b : Nat → Nat) (hX : XR 3 n b S) (hn : n ≤ 39) : EX me_N_hear 4 [.ref 0, .int (nI 1)] S (fun r u => r = none ∧ PH1 S n b u) := by
  refine EX.of mok_N_hear (Nat.le_of_ble_eq_true rfl) ?_
  obtain ⟨x1, x2, x3⟩ := id hX
  refine run_ok 1 (c' := (1, [(0, .ref 0), (1, .int (nI 1))], [.int (nI 1)], S)) rfl ?_
  refine x_ifN_ne 18 rfl rfl (by omega) (fun h1 => ?_) (fun hn => absurd hn (by decide))
  refine run_ok 4 (c' := (26, [(0, .ref 0), (1, .int (nI 1))], [.ref 3, .ref 5], S)) rfl ?_
  refine x_callV [.ref 3] rfl cv_T_hearBoats.1 lk_6_356 cv_T_hearBoats.2.1 cv_T_hearBoats.2.2.1 rfl cv_T_hearBoats.2.2.2.1 rfl rfl (Nat.le_of_ble_eq_true rfl) (by decide) cv_T_hearBoats.2.2.2.2 (c_hearBoats S n b hX hn) ?_
  rintro r u ⟨hr, h6, h5, h1, hf, h2⟩
  rw [hr]
  clear hr r
  exact x_ret (r := none) rfl rfl trivial ⟨rfl, ⟨by rw [h1]; exact x1, fun j hj => by rw [hf 4 (by decide)]; exact x2 j hj, x3⟩, h6, h5, by rw [h1]; rfl, hf.sub (by decide), h2⟩ rfl

set_option maxHeartbeats 2000000 in
theorem c_textOf1 (S : ST) : EX me_N_textOf 0 [.ref 0, .int (nI 1)] S (fun r u => r = some (.ref 3) ∧ u = S) := by
  refine EX.of mok_N_textOf (Nat.le_of_ble_eq_true rfl) ?_
  refine run_ok 1 (c' := (1, [(0, .ref 0), (1, .int (nI 1))], [.int (nI 1)], S)) rfl ?_
  refine x_ifN_ne 11 rfl rfl (by omega) (fun h1 => ?_) (fun hn => absurd hn (by decide))
  refine run_ok 2 (c' := (15, [(0, .ref 0), (1, .int (nI 1))], [.ref 3], S)) rfl ?_
  exact x_ret (r := some (.ref 3)) rfl rfl trivial ⟨rfl, rfl⟩ rfl

set_option maxHeartbeats 2000000 in
theorem c_type_ok1 (S : ST) (n : Nat) (b : Nat → Nat) (hX : XR 3 n b S) (hn : n ≤ 39) (c : Nat) (hc : c < 256) (hnc : ¬ n = 39) : EX me_N_type 5 [.ref 0, .int (nI 1), .int (nI c)] S (fun r u => r = some (.int (nI (n + 1))) ∧ PH1 S (n + 1) (upn b n c) u) := by
  refine EX.of mok_N_type (Nat.le_of_ble_eq_true rfl) ?_
  obtain ⟨x1, x2, x3⟩ := id hX
  refine run_ok 2 (c' := (2, [(0, .ref 0), (1, .int (nI 1)), (2, .int (nI c))], [.int (nI 2), .int (nI 1)], S)) rfl ?_
  refine x_callS [.int (nI 1), .int (nI 2)] rfl cs_N_isBelow.1 lk_6_73 cs_N_isBelow.2.1 rfl rfl (Nat.le_of_ble_eq_true rfl) (by decide) cs_N_isBelow.2.2 (c_isBelow S (nI 1) (nI 2)) ?_
  rintro r u ⟨hr, hu⟩
  rw [hr, hu]
  clear hr hu r u
  refine x_ifB_eq 18 rfl rfl (fun hn => absurd hn (fun z => z (inr_t (by decide) (by decide)))) (fun h5 => ?_)
  refine run_ok 2 (c' := (12, [(0, .ref 0), (1, .int (nI 1)), (2, .int (nI c))], [.int (nI 256), .int (nI c)], S)) rfl ?_
  refine x_callS [.int (nI c), .int (nI 256)] rfl cs_N_isBelow.1 lk_6_73 cs_N_isBelow.2.1 rfl rfl (Nat.le_of_ble_eq_true rfl) (by decide) cs_N_isBelow.2.2 (c_isBelow S (nI c) (nI 256)) ?_
  rintro r u ⟨hr, hu⟩
  rw [hr, hu]
  clear hr hu r u
  refine x_ifB_ne 21 rfl rfl (fun h15 => ?_) (fun hn => absurd (inr_t hc (by decide)) hn)
  refine run_ok 2 (c' := (23, [(0, .ref 0), (1, .int (nI 1)), (2, .int (nI c))], [.int (nI 1), .ref 0], S)) rfl ?_
  refine x_callV [.int (nI 1)] rfl cv_N_textOf.1 lk_6_77 cv_N_textOf.2.1 cv_N_textOf.2.2.1 rfl cv_N_textOf.2.2.2.1 rfl rfl (Nat.le_of_ble_eq_true rfl) (by decide) cv_N_textOf.2.2.2.2 (c_textOf1 S) ?_
  rintro r x ⟨hr, hu⟩
  rw [hr, hu]
  clear hr hu r x
  refine run_ok 2 (c' := (28, [(0, .ref 0), (1, .int (nI 1)), (2, .int (nI c)), (3, .ref 3)], [.ref 3], S)) rfl ?_
  refine x_callV [] rfl cv_X_isFull.1 lk_6_81 cv_X_isFull.2.1 cv_X_isFull.2.2.1 rfl cv_X_isFull.2.2.2.1 rfl rfl (Nat.le_of_ble_eq_true rfl) (by decide) cv_X_isFull.2.2.2.2 (c_isFull1 S n b hX hn) ?_
  rintro r x ⟨hr, hu⟩
  rw [hr, hu]
  clear hr hu r x
  refine x_ifB_eq 37 rfl rfl (fun h31 => ?_) (fun hn => absurd hn (show ¬ n = 39 by omega))
  refine run_ok 2 (c' := (39, [(0, .ref 0), (1, .int (nI 1)), (2, .int (nI c)), (3, .ref 3)], [.int (nI c), .ref 3], S)) rfl ?_
  refine x_callV [.int (nI c)] rfl cv_X_append.1 lk_6_85 cv_X_append.2.1 cv_X_append.2.2.1 rfl cv_X_append.2.2.2.1 rfl rfl (Nat.le_of_ble_eq_true rfl) (by decide) cv_X_append.2.2.2.2 (c_xappend1 S n b hX (by omega) c hc) ?_
  rintro r v ⟨hr, hXv, hfv, h2v⟩
  rw [hr]
  clear hr r
  refine run_ok 2 (c' := (44, [(0, .ref 0), (1, .int (nI 1)), (2, .int (nI c)), (3, .ref 3)], [.int (nI 1), .ref 0], v)) rfl ?_
  refine x_callV [.int (nI 1)] rfl cv_N_hear.1 lk_6_88 cv_N_hear.2.1 cv_N_hear.2.2.1 rfl cv_N_hear.2.2.2.1 rfl rfl (Nat.le_of_ble_eq_true rfl) (by decide) cv_N_hear.2.2.2.2 (c_hear1 v (n + 1) (upn b n c) hXv (by omega)) ?_
  rintro r z ⟨hr, hz⟩
  rw [hr]
  clear hr r
  have z1 := hz.1.1
  refine run_ok 2 (c' := (51, [(0, .ref 0), (1, .int (nI 1)), (2, .int (nI c)), (3, .ref 3)], [.int (z.1 3 1)], z)) rfl ?_
  refine x_top (v' := nI (n + 1)) z1 ?_
  exact x_ret (r := some (.int (nI (n + 1)))) rfl rfl trivial ⟨rfl, hz.1, hz.2.1, by rw [hz.2.2.1, hfv 5 (by decide)], hz.2.2.2.1, (hfv.sub (by decide)).tr hz.2.2.2.2.1, hz.2.2.2.2.2.trans h2v⟩ rfl

set_option maxHeartbeats 2000000 in
theorem c_type_full1 (S : ST) (n : Nat) (b : Nat → Nat) (hX : XR 3 n b S) (hn : n ≤ 39) (c : Nat) (hc : c < 256) (hnc : n = 39) : EX me_N_type 5 [.ref 0, .int (nI 1), .int (nI c)] S (fun r u => r = some (.int (-4)) ∧ u = S) := by
  refine EX.of mok_N_type (Nat.le_of_ble_eq_true rfl) ?_
  obtain ⟨x1, x2, x3⟩ := id hX
  refine run_ok 2 (c' := (2, [(0, .ref 0), (1, .int (nI 1)), (2, .int (nI c))], [.int (nI 2), .int (nI 1)], S)) rfl ?_
  refine x_callS [.int (nI 1), .int (nI 2)] rfl cs_N_isBelow.1 lk_6_73 cs_N_isBelow.2.1 rfl rfl (Nat.le_of_ble_eq_true rfl) (by decide) cs_N_isBelow.2.2 (c_isBelow S (nI 1) (nI 2)) ?_
  rintro r u ⟨hr, hu⟩
  rw [hr, hu]
  clear hr hu r u
  refine x_ifB_eq 18 rfl rfl (fun hn => absurd hn (fun z => z (inr_t (by decide) (by decide)))) (fun h5 => ?_)
  refine run_ok 2 (c' := (12, [(0, .ref 0), (1, .int (nI 1)), (2, .int (nI c))], [.int (nI 256), .int (nI c)], S)) rfl ?_
  refine x_callS [.int (nI c), .int (nI 256)] rfl cs_N_isBelow.1 lk_6_73 cs_N_isBelow.2.1 rfl rfl (Nat.le_of_ble_eq_true rfl) (by decide) cs_N_isBelow.2.2 (c_isBelow S (nI c) (nI 256)) ?_
  rintro r u ⟨hr, hu⟩
  rw [hr, hu]
  clear hr hu r u
  refine x_ifB_ne 21 rfl rfl (fun h15 => ?_) (fun hn => absurd (inr_t hc (by decide)) hn)
  refine run_ok 2 (c' := (23, [(0, .ref 0), (1, .int (nI 1)), (2, .int (nI c))], [.int (nI 1), .ref 0], S)) rfl ?_
  refine x_callV [.int (nI 1)] rfl cv_N_textOf.1 lk_6_77 cv_N_textOf.2.1 cv_N_textOf.2.2.1 rfl cv_N_textOf.2.2.2.1 rfl rfl (Nat.le_of_ble_eq_true rfl) (by decide) cv_N_textOf.2.2.2.2 (c_textOf1 S) ?_
  rintro r x ⟨hr, hu⟩
  rw [hr, hu]
  clear hr hu r x
  refine run_ok 2 (c' := (28, [(0, .ref 0), (1, .int (nI 1)), (2, .int (nI c)), (3, .ref 3)], [.ref 3], S)) rfl ?_
  refine x_callV [] rfl cv_X_isFull.1 lk_6_81 cv_X_isFull.2.1 cv_X_isFull.2.2.1 rfl cv_X_isFull.2.2.2.1 rfl rfl (Nat.le_of_ble_eq_true rfl) (by decide) cv_X_isFull.2.2.2.2 (c_isFull1 S n b hX hn) ?_
  rintro r x ⟨hr, hu⟩
  rw [hr, hu]
  clear hr hu r x
  refine x_ifB_eq 37 rfl rfl (fun hn => absurd hn (fun z => z hnc)) (fun h31 => ?_)
  refine run_ok 1 (c' := (36, [(0, .ref 0), (1, .int (nI 1)), (2, .int (nI c)), (3, .ref 3)], [.int (-4)], S)) rfl ?_
  exact x_ret (r := some (.int (-4))) rfl rfl trivial ⟨rfl, rfl⟩ rfl

set_option maxHeartbeats 2000000 in
theorem c_wipe_ok1 (S : ST) (n : Nat) (b : Nat → Nat) (hX : XR 3 n b S) (hn : n ≤ 39) : EX me_N_wipe 5 [.ref 0, .int (nI 1)] S (fun r u => r = some (.int (nI n)) ∧ PH1 S 0 b u) := by
  refine EX.of mok_N_wipe (Nat.le_of_ble_eq_true rfl) ?_
  obtain ⟨x1, x2, x3⟩ := id hX
  refine run_ok 2 (c' := (2, [(0, .ref 0), (1, .int (nI 1))], [.int (nI 2), .int (nI 1)], S)) rfl ?_
  refine x_callS [.int (nI 1), .int (nI 2)] rfl cs_N_isBelow.1 lk_6_73 cs_N_isBelow.2.1 rfl rfl (Nat.le_of_ble_eq_true rfl) (by decide) cs_N_isBelow.2.2 (c_isBelow S (nI 1) (nI 2)) ?_
  rintro r u ⟨hr, hu⟩
  rw [hr, hu]
  clear hr hu r u
  refine x_ifB_ne 11 rfl rfl (fun h5 => ?_) (fun hn => absurd (inr_t (by decide) (by decide)) hn)
  refine run_ok 2 (c' := (13, [(0, .ref 0), (1, .int (nI 1))], [.int (nI 1), .ref 0], S)) rfl ?_
  refine x_callV [.int (nI 1)] rfl cv_N_textOf.1 lk_6_77 cv_N_textOf.2.1 cv_N_textOf.2.2.1 rfl cv_N_textOf.2.2.2.1 rfl rfl (Nat.le_of_ble_eq_true rfl) (by decide) cv_N_textOf.2.2.2.2 (c_textOf1 S) ?_
  rintro r x ⟨hr, hu⟩
  rw [hr, hu]
  clear hr hu r x
  refine run_ok 3 (c' := (21, [(0, .ref 0), (1, .int (nI 1)), (2, .ref 3)], [.int (S.1 3 1)], S)) rfl ?_
  refine x_top (v' := nI n) x1 ?_
  refine run_ok 6 (c' := (29, [(0, .ref 0), (1, .int (nI 1)), (2, .ref 3), (3, .int (nI n))], [.int (nI 1), .ref 0], (pt S 3 1 (nI 0)))) rfl ?_
  refine x_callV [.int (nI 1)] rfl cv_N_hear.1 lk_6_88 cv_N_hear.2.1 cv_N_hear.2.2.1 rfl cv_N_hear.2.2.2.1 rfl rfl (Nat.le_of_ble_eq_true rfl) (by decide) cv_N_hear.2.2.2.2 (c_hear1 (pt S 3 1 (nI 0)) (0) (b) (show XR 3 0 b (pt S 3 1 (nI 0)) from ⟨rfl, fun j hj => absurd hj (Nat.not_lt_zero _), fun j hj => absurd hj (Nat.not_lt_zero _)⟩) (by omega)) ?_
  rintro r z ⟨hr, hz⟩
  rw [hr]
  clear hr r
  have z1 := hz.1.1
  refine run_ok 1 (c' := (33, [(0, .ref 0), (1, .int (nI 1)), (2, .ref 3), (3, .int (nI n))], [.int (nI n)], z)) rfl ?_
  exact x_ret (r := some (.int (nI n))) rfl rfl trivial ⟨rfl, hz.1, hz.2.1, hz.2.2.1, hz.2.2.2.1, (fr.rf.pt (by decide)).tr hz.2.2.2.2.1, hz.2.2.2.2.2⟩ rfl

set_option maxHeartbeats 2000000 in
theorem c_undo_not1 (S : ST) (n : Nat) (b : Nat → Nat) (hX : XR 3 n b S) (hn : n ≤ 39) (hn0 : n = 0) : EX me_N_undo 5 [.ref 0, .int (nI 1)] S (fun r u => r = some (.int (-3)) ∧ u = S) := by
  refine EX.of mok_N_undo (Nat.le_of_ble_eq_true rfl) ?_
  obtain ⟨x1, x2, x3⟩ := id hX
  refine run_ok 2 (c' := (2, [(0, .ref 0), (1, .int (nI 1))], [.int (nI 2), .int (nI 1)], S)) rfl ?_
  refine x_callS [.int (nI 1), .int (nI 2)] rfl cs_N_isBelow.1 lk_6_73 cs_N_isBelow.2.1 rfl rfl (Nat.le_of_ble_eq_true rfl) (by decide) cs_N_isBelow.2.2 (c_isBelow S (nI 1) (nI 2)) ?_
  rintro r u ⟨hr, hu⟩
  rw [hr, hu]
  clear hr hu r u
  refine x_ifB_ne 11 rfl rfl (fun h5 => ?_) (fun hn => absurd (inr_t (by decide) (by decide)) hn)
  refine run_ok 2 (c' := (13, [(0, .ref 0), (1, .int (nI 1))], [.int (nI 1), .ref 0], S)) rfl ?_
  refine x_callV [.int (nI 1)] rfl cv_N_textOf.1 lk_6_77 cv_N_textOf.2.1 cv_N_textOf.2.2.1 rfl cv_N_textOf.2.2.2.1 rfl rfl (Nat.le_of_ble_eq_true rfl) (by decide) cv_N_textOf.2.2.2.2 (c_textOf1 S) ?_
  rintro r x ⟨hr, hu⟩
  rw [hr, hu]
  clear hr hu r x
  refine run_ok 3 (c' := (21, [(0, .ref 0), (1, .int (nI 1)), (2, .ref 3)], [.int (S.1 3 1)], S)) rfl ?_
  refine x_top (v' := nI n) x1 ?_
  refine x_ifN_ne 27 rfl rfl (by omega) (fun hn => absurd hn0 hn) (fun h21 => ?_)
  refine run_ok 1 (c' := (26, [(0, .ref 0), (1, .int (nI 1)), (2, .ref 3)], [.int (-3)], S)) rfl ?_
  exact x_ret (r := some (.int (-3))) rfl rfl trivial ⟨rfl, rfl⟩ rfl

set_option maxHeartbeats 2000000 in
theorem c_undo_ok1 (S : ST) (n : Nat) (b : Nat → Nat) (hX : XR 3 n b S) (hn : n ≤ 39) (hn0 : ¬ n = 0) : EX me_N_undo 5 [.ref 0, .int (nI 1)] S (fun r u => r = some (.int (nI (n - 1))) ∧ PH1 S (n - 1) b u) := by
  refine EX.of mok_N_undo (Nat.le_of_ble_eq_true rfl) ?_
  obtain ⟨x1, x2, x3⟩ := id hX
  refine run_ok 2 (c' := (2, [(0, .ref 0), (1, .int (nI 1))], [.int (nI 2), .int (nI 1)], S)) rfl ?_
  refine x_callS [.int (nI 1), .int (nI 2)] rfl cs_N_isBelow.1 lk_6_73 cs_N_isBelow.2.1 rfl rfl (Nat.le_of_ble_eq_true rfl) (by decide) cs_N_isBelow.2.2 (c_isBelow S (nI 1) (nI 2)) ?_
  rintro r u ⟨hr, hu⟩
  rw [hr, hu]
  clear hr hu r u
  refine x_ifB_ne 11 rfl rfl (fun h5 => ?_) (fun hn => absurd (inr_t (by decide) (by decide)) hn)
  refine run_ok 2 (c' := (13, [(0, .ref 0), (1, .int (nI 1))], [.int (nI 1), .ref 0], S)) rfl ?_
  refine x_callV [.int (nI 1)] rfl cv_N_textOf.1 lk_6_77 cv_N_textOf.2.1 cv_N_textOf.2.2.1 rfl cv_N_textOf.2.2.2.1 rfl rfl (Nat.le_of_ble_eq_true rfl) (by decide) cv_N_textOf.2.2.2.2 (c_textOf1 S) ?_
  rintro r x ⟨hr, hu⟩
  rw [hr, hu]
  clear hr hu r x
  refine run_ok 3 (c' := (21, [(0, .ref 0), (1, .int (nI 1)), (2, .ref 3)], [.int (S.1 3 1)], S)) rfl ?_
  refine x_top (v' := nI n) x1 ?_
  refine x_ifN_ne 27 rfl rfl (by omega) (fun h21 => ?_) (fun hn => absurd hn hn0)
  refine run_ok 3 (c' := (32, [(0, .ref 0), (1, .int (nI 1)), (2, .ref 3)], [.int (S.1 3 1), .ref 3], S)) rfl ?_
  refine x_top (v' := nI n) x1 ?_
  refine run_ok 2 (c' := (34, [(0, .ref 0), (1, .int (nI 1)), (2, .ref 3)], [.int ((nI n) - (nI 1)), .ref 3], S)) rfl ?_
  refine x_top (v' := nI (n - 1)) (pk_sub (by omega)) ?_
  refine run_ok 3 (c' := (39, [(0, .ref 0), (1, .int (nI 1)), (2, .ref 3)], [.int (nI 1), .ref 0], (pt S 3 1 (nI (n - 1))))) rfl ?_
  refine x_callV [.int (nI 1)] rfl cv_N_hear.1 lk_6_88 cv_N_hear.2.1 cv_N_hear.2.2.1 rfl cv_N_hear.2.2.2.1 rfl rfl (Nat.le_of_ble_eq_true rfl) (by decide) cv_N_hear.2.2.2.2 (c_hear1 (pt S 3 1 (nI (n - 1))) (n - 1) (b) (show XR 3 (n - 1) b (pt S 3 1 (nI (n - 1))) from ⟨rfl, fun j hj => x2 j (by omega), fun j hj => x3 j (by omega)⟩) (by omega)) ?_
  rintro r z ⟨hr, hz⟩
  rw [hr]
  clear hr r
  have z1 := hz.1.1
  refine run_ok 2 (c' := (46, [(0, .ref 0), (1, .int (nI 1)), (2, .ref 3)], [.int (z.1 3 1)], z)) rfl ?_
  refine x_top (v' := nI (n - 1)) z1 ?_
  exact x_ret (r := some (.int (nI (n - 1)))) rfl rfl trivial ⟨rfl, hz.1, hz.2.1, hz.2.2.1, hz.2.2.2.1, (fr.rf.pt (by decide)).tr hz.2.2.2.2.1, hz.2.2.2.2.2⟩ rfl

set_option maxHeartbeats 2000000 in
theorem c_fault_ok1 (S : ST)  : EX me_N_fault 1 [.ref 0, .int (nI 1)] S (fun r u => r = some (.int (S.1 3 2)) ∧ u = S) := by
  refine EX.of mok_N_fault (Nat.le_of_ble_eq_true rfl) ?_
  refine run_ok 2 (c' := (2, [(0, .ref 0), (1, .int (nI 1))], [.int (nI 2), .int (nI 1)], S)) rfl ?_
  refine x_callS [.int (nI 1), .int (nI 2)] rfl cs_N_isBelow.1 lk_6_73 cs_N_isBelow.2.1 rfl rfl (Nat.le_of_ble_eq_true rfl) (by decide) cs_N_isBelow.2.2 (c_isBelow S (nI 1) (nI 2)) ?_
  rintro r u ⟨hr, hu⟩
  rw [hr, hu]
  clear hr hu r u
  refine x_ifB_eq 19 rfl rfl (fun hn => absurd hn (fun z => z (inr_t (by decide) (by decide)))) (fun h5 => ?_)
  refine run_ok 2 (c' := (10, [(0, .ref 0), (1, .int (nI 1))], [.int (nI 1), .ref 0], S)) rfl ?_
  refine x_callV [.int (nI 1)] rfl cv_N_textOf.1 lk_6_77 cv_N_textOf.2.1 cv_N_textOf.2.2.1 rfl cv_N_textOf.2.2.2.1 rfl rfl (Nat.le_of_ble_eq_true rfl) (by decide) cv_N_textOf.2.2.2.2 (c_textOf1 S) ?_
  rintro r x ⟨hr, hu⟩
  rw [hr, hu]
  clear hr hu r x
  refine run_ok 2 (c' := (21, [(0, .ref 0), (1, .int (nI 1))], [.int (S.1 3 2)], S)) rfl ?_
  exact x_ret (r := some (.int (S.1 3 2))) rfl rfl trivial ⟨rfl, rfl⟩ rfl

set_option maxHeartbeats 2000000 in
theorem c_type_bad (S : ST) (x y : Int32) (hbad : ¬ ((0 ≤ x ∧ x < nI 2) ∧ (0 ≤ y ∧ y < nI 256))) : EX me_N_type 5 [.ref 0, .int x, .int y] S (fun r u => r = some (.int ((-2))) ∧ u = S) := by
  refine EX.of mok_N_type (Nat.le_of_ble_eq_true rfl) ?_
  refine run_ok 2 (c' := (2, [(0, .ref 0), (1, .int x), (2, .int y)], [.int (nI 2), .int x], S)) rfl ?_
  refine x_callS [.int x, .int (nI 2)] rfl cs_N_isBelow.1 lk_6_73 cs_N_isBelow.2.1 rfl rfl (Nat.le_of_ble_eq_true rfl) (by decide) cs_N_isBelow.2.2 (c_isBelow S (x) (nI 2)) ?_
  rintro r u ⟨hr, hu⟩
  rw [hr, hu]
  clear hr hu r u
  refine x_ifB_eq 18 rfl rfl (fun h5 => ?_) (fun h5 => ?_)
  · refine run_ok 1 (c' := (20, [(0, .ref 0), (1, .int x), (2, .int y)], [.int (-2)], S)) rfl ?_
    exact x_ret (r := some (.int (-2))) rfl rfl trivial ⟨rfl, rfl⟩ rfl
  · refine run_ok 2 (c' := (12, [(0, .ref 0), (1, .int x), (2, .int y)], [.int (nI 256), .int y], S)) rfl ?_
    refine x_callS [.int y, .int (nI 256)] rfl cs_N_isBelow.1 lk_6_73 cs_N_isBelow.2.1 rfl rfl (Nat.le_of_ble_eq_true rfl) (by decide) cs_N_isBelow.2.2 (c_isBelow S (y) (nI 256)) ?_
    rintro r u ⟨hr, hu⟩
    rw [hr, hu]
    clear hr hu r u
    refine x_ifB_ne 21 rfl rfl (fun h15 => ?_) (fun h15 => ?_)
    · exact absurd ⟨h5, h15⟩ hbad
    · refine run_ok 1 (c' := (20, [(0, .ref 0), (1, .int x), (2, .int y)], [.int (-2)], S)) rfl ?_
      exact x_ret (r := some (.int (-2))) rfl rfl trivial ⟨rfl, rfl⟩ rfl

set_option maxHeartbeats 2000000 in
theorem c_wipe_bad (S : ST) (x : Int32) (hbad : ¬ (0 ≤ x ∧ x < nI 2)) : EX me_N_wipe 5 [.ref 0, .int x] S (fun r u => r = some (.int ((-2))) ∧ u = S) := by
  refine EX.of mok_N_wipe (Nat.le_of_ble_eq_true rfl) ?_
  refine run_ok 2 (c' := (2, [(0, .ref 0), (1, .int x)], [.int (nI 2), .int x], S)) rfl ?_
  refine x_callS [.int x, .int (nI 2)] rfl cs_N_isBelow.1 lk_6_73 cs_N_isBelow.2.1 rfl rfl (Nat.le_of_ble_eq_true rfl) (by decide) cs_N_isBelow.2.2 (c_isBelow S (x) (nI 2)) ?_
  rintro r u ⟨hr, hu⟩
  rw [hr, hu]
  clear hr hu r u
  refine x_ifB_ne 11 rfl rfl (fun h5 => ?_) (fun h5 => ?_)
  · exact absurd h5 hbad
  · refine run_ok 1 (c' := (10, [(0, .ref 0), (1, .int x)], [.int (-2)], S)) rfl ?_
    exact x_ret (r := some (.int (-2))) rfl rfl trivial ⟨rfl, rfl⟩ rfl

set_option maxHeartbeats 2000000 in
theorem c_undo_bad (S : ST) (x : Int32) (hbad : ¬ (0 ≤ x ∧ x < nI 2)) : EX me_N_undo 5 [.ref 0, .int x] S (fun r u => r = some (.int ((-2))) ∧ u = S) := by
  refine EX.of mok_N_undo (Nat.le_of_ble_eq_true rfl) ?_
  refine run_ok 2 (c' := (2, [(0, .ref 0), (1, .int x)], [.int (nI 2), .int x], S)) rfl ?_
  refine x_callS [.int x, .int (nI 2)] rfl cs_N_isBelow.1 lk_6_73 cs_N_isBelow.2.1 rfl rfl (Nat.le_of_ble_eq_true rfl) (by decide) cs_N_isBelow.2.2 (c_isBelow S (x) (nI 2)) ?_
  rintro r u ⟨hr, hu⟩
  rw [hr, hu]
  clear hr hu r u
  refine x_ifB_ne 11 rfl rfl (fun h5 => ?_) (fun h5 => ?_)
  · exact absurd h5 hbad
  · refine run_ok 1 (c' := (10, [(0, .ref 0), (1, .int x)], [.int (-2)], S)) rfl ?_
    exact x_ret (r := some (.int (-2))) rfl rfl trivial ⟨rfl, rfl⟩ rfl

set_option maxHeartbeats 2000000 in
theorem c_fault_bad (S : ST) (x : Int32) (hbad : ¬ (0 ≤ x ∧ x < nI 2)) : EX me_N_fault 1 [.ref 0, .int x] S (fun r u => r = some (.int ((-2))) ∧ u = S) := by
  refine EX.of mok_N_fault (Nat.le_of_ble_eq_true rfl) ?_
  refine run_ok 2 (c' := (2, [(0, .ref 0), (1, .int x)], [.int (nI 2), .int x], S)) rfl ?_
  refine x_callS [.int x, .int (nI 2)] rfl cs_N_isBelow.1 lk_6_73 cs_N_isBelow.2.1 rfl rfl (Nat.le_of_ble_eq_true rfl) (by decide) cs_N_isBelow.2.2 (c_isBelow S (x) (nI 2)) ?_
  rintro r u ⟨hr, hu⟩
  rw [hr, hu]
  clear hr hu r u
  refine x_ifB_eq 19 rfl rfl (fun h5 => ?_) (fun h5 => ?_)
  · refine run_ok 1 (c' := (21, [(0, .ref 0), (1, .int x)], [.int (-2)], S)) rfl ?_
    exact x_ret (r := some (.int (-2))) rfl rfl trivial ⟨rfl, rfl⟩ rfl
  · exact absurd h5 hbad

def okv (x y z : Int32) : Prop := (0 ≤ x ∧ x < nI 3) ∧ (0 ≤ y ∧ y < nI 24) ∧ (0 ≤ z ∧ z < nI 8)
def adv (T : TD) (x y z : Int32) : TD := wev T (tne T + 1) (upn (tek T) (tne T) x.toNatClampNeg) (upn (tew T) (tne T) y.toNatClampNeg) (upn (teb T) (tne T) z.toNatClampNeg)
def okd (x y z : Int32) : Bool := decide ((0 ≤ x ∧ x < nI 3) ∧ (0 ≤ y ∧ y < nI 24) ∧ (0 ≤ z ∧ z < nI 8))
def rdf (f : Nat → Int32) : Nat → Nat → TD → Nat × TD
  | 0, i, T => (i, T)
  | n + 1, i, T => if okd (f (3 * i)) (f (3 * i + 1)) (f (3 * i + 2)) = true ∧ tne T < 8 then rdf f n (i + 1) (adv T (f (3 * i)) (f (3 * i + 1)) (f (3 * i + 2))) else (i, T)
theorem tok_adv {T : TD} (h : tok T) (hn : tne T < 8) {x y z : Nat} (h1 : x < 3) (h2 : y < 24) (h3 : z < 8) : tok (adv T (nI x) (nI y) (nI z)) := by
  unfold adv
  rw [nI_clamp (by omega), nI_clamp (by omega), nI_clamp (by omega)]
  exact tok_wev h (by omega) h1 h2 h3
set_option maxHeartbeats 2000000 in
theorem c_read_bad (S : ST) (x : Int32) (hbad : ¬ (0 ≤ x ∧ x < nI 4)) : EX me_N_read 2 [.ref 0, .int x] S (fun r u => r = some (.int ((-2))) ∧ u = S) := by
  refine EX.of mok_N_read (Nat.le_of_ble_eq_true rfl) ?_
  refine run_ok 2 (c' := (2, [(0, .ref 0), (1, .int x)], [.int (nI 4), .int x], S)) rfl ?_
  refine x_callS [.int x, .int (nI 4)] rfl cs_N_isBelow.1 lk_6_73 cs_N_isBelow.2.1 rfl rfl (Nat.le_of_ble_eq_true rfl) (by decide) cs_N_isBelow.2.2 (c_isBelow S (x) (nI 4)) ?_
  rintro r u ⟨hr, hu⟩
  rw [hr, hu]
  clear hr hu r u
  refine x_ifB_ne 11 rfl rfl (fun h5 => ?_) (fun h5 => ?_)
  · exact absurd h5 hbad
  · refine run_ok 1 (c' := (10, [(0, .ref 0), (1, .int x)], [.int (-2)], S)) rfl ?_
    exact x_ret (r := some (.int (-2))) rfl rfl trivial ⟨rfl, rfl⟩ rfl

set_option maxHeartbeats 2000000 in
theorem c_read_null0 (S : ST) (lo fm sz : Nat) (hH : HR 38 lo fm sz S) (hlo : lo = 1) : EX me_N_read 2 [.ref 0, .int (nI 0)] S (fun r u => r = some (.int ((-10) - nI 1)) ∧ u = pt S 0 10 (nI 1)) := by
  refine EX.of mok_N_read (Nat.le_of_ble_eq_true rfl) ?_
  obtain ⟨g3, g1, g2, hl1, hf2, hs60⟩ := id hH
  refine run_ok 2 (c' := (2, [(0, .ref 0), (1, .int (nI 0))], [.int (nI 4), .int (nI 0)], S)) rfl ?_
  refine x_callS [.int (nI 0), .int (nI 4)] rfl cs_N_isBelow.1 lk_6_73 cs_N_isBelow.2.1 rfl rfl (Nat.le_of_ble_eq_true rfl) (by decide) cs_N_isBelow.2.2 (c_isBelow S (nI 0) (nI 4)) ?_
  rintro r u ⟨hr, hu⟩
  rw [hr, hu]
  clear hr hu r u
  refine x_ifB_ne 11 rfl rfl (fun h5 => ?_) (fun hn => absurd (inr_t (by decide) (by decide)) hn)
  refine run_ok 3 (c' := (16, [(0, .ref 0), (1, .int (nI 0))], [.int (nI 0), .ref 37], S)) rfl ?_
  refine x_aald (t := 38) rfl rfl (vp_in_nI (by decide) (by decide)) (by decide) ?_
  refine run_ok 3 (c' := (22, [(0, .ref 0), (1, .int (nI 0)), (2, .ref 38)], [.int (S.1 38 3)], S)) rfl ?_
  refine x_top (v' := nI lo) g3 ?_
  refine x_ifN_eq 31 rfl rfl (by omega) (fun hn => absurd hn (by omega)) (fun h22 => ?_)
  refine run_ok 2 (c' := (27, [(0, .ref 0), (1, .int (nI 0)), (2, .ref 38)], [.int (nI 1), .ref 0], S)) rfl ?_
  refine x_callV [.int (nI 1)] rfl cv_N_find.1 lk_6_134 cv_N_find.2.1 cv_N_find.2.2.1 rfl cv_N_find.2.2.2.1 rfl rfl (Nat.le_of_ble_eq_true rfl) (by decide) cv_N_find.2.2.2.2 (c_find S (1)) ?_
  rintro r x ⟨hr, hu⟩
  rw [hr, hu]
  clear hr hu r x
  exact x_ret (r := some (.int ((-10) - nI 1))) rfl rfl trivial ⟨rfl, rfl⟩ rfl

set_option maxHeartbeats 2000000 in
theorem c_read_ok0 (S : ST) (T : TD) (hT : TR 5 T S) (hto : tok T) (lo fm sz : Nat) (hH : HR 38 lo fm sz S) (hlo0 : lo = 0) : EX me_N_read 2 [.ref 0, .int (nI 0)] S (fun r u => r = some (.int (nI (rdf (S.1 39) (sz / 3) 0 T).1)) ∧ TR 5 (rdf (S.1 39) (sz / 3) 0 T).2 u ∧ tok (rdf (S.1 39) (sz / 3) 0 T).2 ∧ fr [5, 11, 12, 13] S u ∧ u.2 = S.2) := by
  refine EX.of mok_N_read (Nat.le_of_ble_eq_true rfl) ?_
  obtain ⟨g3, g1, g2, hl1, hf2, hs60⟩ := id hH
  have H : ∀ i, i ≤ sz / 3 → ∀ (v : ST) (T1 : TD), TR 5 T1 v → tok T1 → fr [5, 11, 12, 13] S v → v.2 = S.2 → rdf (S.1 39) (sz / 3) 0 T = rdf (S.1 39) (sz / 3 - i) i T1 → BX me_N_read 2 none (fun r u => r = some (.int (nI (rdf (S.1 39) (sz / 3) 0 T).1)) ∧ TR 5 (rdf (S.1 39) (sz / 3) 0 T).2 u ∧ tok (rdf (S.1 39) (sz / 3) 0 T).2 ∧ fr [5, 11, 12, 13] S u ∧ u.2 = S.2) (41, [(0, .ref 0), (1, .int (nI 0)), (2, .ref 38), (3, .int (nI (sz / 3))), (4, .int (nI i))], [], v) := by
    refine loop_up (P := fun i => ∀ (v : ST) (T1 : TD), TR 5 T1 v → tok T1 → fr [5, 11, 12, 13] S v → v.2 = S.2 → rdf (S.1 39) (sz / 3) 0 T = rdf (S.1 39) (sz / 3 - i) i T1 → BX me_N_read 2 none (fun r u => r = some (.int (nI (rdf (S.1 39) (sz / 3) 0 T).1)) ∧ TR 5 (rdf (S.1 39) (sz / 3) 0 T).2 u ∧ tok (rdf (S.1 39) (sz / 3) 0 T).2 ∧ fr [5, 11, 12, 13] S u ∧ u.2 = S.2) (41, [(0, .ref 0), (1, .int (nI 0)), (2, .ref 38), (3, .int (nI (sz / 3))), (4, .int (nI i))], [], v)) (sz / 3) ?_ ?_
    · intro v T1 hT1 hk1 hf h2 hs
      refine run_ok 2 (c' := (44, [(0, .ref 0), (1, .int (nI 0)), (2, .ref 38), (3, .int (nI (sz / 3))), (4, .int (nI (sz / 3)))], [.int (nI (sz / 3)), .int (nI (sz / 3))], v)) rfl ?_
      refine x_icmpN_ge 94 rfl rfl (by omega) (by omega) (fun h44 => ?_) (fun hn => absurd (Nat.le_refl _) hn)
      refine run_ok 1 (c' := (95, [(0, .ref 0), (1, .int (nI 0)), (2, .ref 38), (3, .int (nI (sz / 3))), (4, .int (nI (sz / 3)))], [.int (nI (sz / 3))], v)) rfl ?_
      refine x_ret (r := some (.int (nI (sz / 3)))) rfl rfl trivial ?_ rfl
      rw [Nat.sub_self] at hs
      rw [hs]
      exact ⟨rfl, hT1, hk1, hf, h2⟩
    · intro i hi ih v T1 hT1 hk1 hf h2 hs
      refine run_ok 2 (c' := (44, [(0, .ref 0), (1, .int (nI 0)), (2, .ref 38), (3, .int (nI (sz / 3))), (4, .int (nI i))], [.int (nI (sz / 3)), .int (nI i)], v)) rfl ?_
      refine x_icmpN_ge 94 rfl rfl (by omega) (by omega) (fun hn => absurd hn (show ¬ sz / 3 ≤ i by omega)) (fun h44 => ?_)
      refine run_ok 3 (c' := (51, [(0, .ref 0), (1, .int (nI 0)), (2, .ref 38), (3, .int (nI (sz / 3))), (4, .int (nI i))], [.int ((nI 3) * (nI i))], v)) rfl ?_
      refine x_top (v' := nI (3 * i)) (pk_mul _ _) ?_
      refine run_ok 5 (c' := (60, [(0, .ref 0), (1, .int (nI 0)), (2, .ref 38), (3, .int (nI (sz / 3))), (4, .int (nI i)), (5, .int (nI (3 * i)))], [.int (nI (3 * i)), .ref 39, .ref 0], v)) rfl ?_
      refine x_iaN (S.1 39 (3 * i)) rfl rfl (by decide) (by omega) (by rw [hf 39 (by decide)]) ?_
      refine run_ok 5 (c' := (69, [(0, .ref 0), (1, .int (nI 0)), (2, .ref 38), (3, .int (nI (sz / 3))), (4, .int (nI i)), (5, .int (nI (3 * i)))], [.int ((nI (3 * i)) + (nI 1)), .ref 39, .int (S.1 39 (3 * i)), .ref 0], v)) rfl ?_
      refine x_top (v' := nI ((3 * i) + 1)) (nI_add _ _) ?_
      refine x_iaN (S.1 39 ((3 * i) + 1)) rfl rfl (by decide) (by omega) (by rw [hf 39 (by decide)]) ?_
      refine run_ok 5 (c' := (78, [(0, .ref 0), (1, .int (nI 0)), (2, .ref 38), (3, .int (nI (sz / 3))), (4, .int (nI i)), (5, .int (nI (3 * i)))], [.int ((nI (3 * i)) + (nI 2)), .ref 39, .int (S.1 39 ((3 * i) + 1)), .int (S.1 39 (3 * i)), .ref 0], v)) rfl ?_
      refine x_top (v' := nI ((3 * i) + 2)) (nI_add _ _) ?_
      refine x_iaN (S.1 39 ((3 * i) + 2)) rfl rfl (by decide) (by omega) (by rw [hf 39 (by decide)]) ?_
      rw [show sz / 3 - i = (sz / 3 - (i + 1)) + 1 by omega] at hs
      by_cases hok : okd (S.1 39 (3 * i)) (S.1 39 (3 * i + 1)) (S.1 39 (3 * i + 2)) = true
      · obtain ⟨ok1, ok2, ok3⟩ := of_decide_eq_true hok
        obtain ⟨kd, hkd, e1⟩ := inr_f (by decide) ok1
        obtain ⟨wk, hwk, e2⟩ := inr_f (by decide) ok2
        obtain ⟨bo, hbo, e3⟩ := inr_f (by decide) ok3
        by_cases hne : tne T1 < 8
        · rw [show rdf (S.1 39) (sz / 3 - (i + 1) + 1) i T1 = rdf (S.1 39) (sz / 3 - (i + 1)) (i + 1) (adv T1 (S.1 39 (3 * i)) (S.1 39 (3 * i + 1)) (S.1 39 (3 * i + 2))) from if_pos ⟨hok, hne⟩] at hs
          rw [e1, e2, e3] at hs ⊢
          refine x_callV [.int (nI kd), .int (nI wk), .int (nI bo)] rfl cv_N_event.1 lk_6_142 cv_N_event.2.1 cv_N_event.2.2.1 rfl cv_N_event.2.2.2.1 rfl rfl (Nat.le_of_ble_eq_true rfl) (by decide) cv_N_event.2.2.2.2 (c_event_ok v T1 hT1 hk1 kd wk bo hkd hwk hbo hne) ?_
          rintro r z ⟨hr, hTz, hfz, h2z⟩
          rw [hr]
          clear hr r
          refine x_ifN_ge 88 rfl rfl (by omega) (fun h82 => ?_) (fun hn => absurd (Nat.zero_le _) hn)
          refine run_ok 1 (c' := (91, [(0, .ref 0), (1, .int (nI 0)), (2, .ref 38), (3, .int (nI (sz / 3))), (4, .int (nI i + nI 1)), (5, .int (nI (3 * i)))], [], z)) rfl ?_
          rw [nI_add i 1]
          refine run_ok 1 (c' := (41, [(0, .ref 0), (1, .int (nI 0)), (2, .ref 38), (3, .int (nI (sz / 3))), (4, .int (nI (i + 1))), (5, .int (nI (3 * i)))], [], z)) rfl ?_
          refine x_less [0, 1, 2, 3, 4] rfl ?_
          refine ih z (adv T1 (nI kd) (nI wk) (nI bo)) (by unfold adv; rw [nI_clamp (by omega), nI_clamp (by omega), nI_clamp (by omega)]; exact hTz) (tok_adv hk1 hne hkd hwk hbo) (hf.tr hfz) (h2z.trans h2) hs
        · rw [show rdf (S.1 39) (sz / 3 - (i + 1) + 1) i T1 = (i, T1) from if_neg (fun z => hne z.2)] at hs
          rw [e1, e2, e3]
          refine x_callV [.int (nI kd), .int (nI wk), .int (nI bo)] rfl cv_N_event.1 lk_6_142 cv_N_event.2.1 cv_N_event.2.2.1 rfl cv_N_event.2.2.2.1 rfl rfl (Nat.le_of_ble_eq_true rfl) (by decide) cv_N_event.2.2.2.2 (c_event_full v T1 hT1 hk1 kd wk bo hkd hwk hbo hne) ?_
          rintro r x ⟨hr, hu⟩
          rw [hr, hu]
          clear hr hu r x
          refine x_if_ge 88 rfl rfl (fun hn => absurd hn (by decide)) (fun h82 => ?_)
          refine run_ok 1 (c' := (87, [(0, .ref 0), (1, .int (nI 0)), (2, .ref 38), (3, .int (nI (sz / 3))), (4, .int (nI i)), (5, .int (nI (3 * i)))], [.int (nI i)], v)) rfl ?_
          refine x_ret (r := some (.int (nI i))) rfl rfl trivial ?_ rfl
          rw [hs]
          exact ⟨rfl, hT1, hk1, hf, h2⟩
      · rw [show rdf (S.1 39) (sz / 3 - (i + 1) + 1) i T1 = (i, T1) from if_neg (fun z => hok z.1)] at hs
        refine x_callV [.int (S.1 39 (3 * i)), .int (S.1 39 ((3 * i) + 1)), .int (S.1 39 ((3 * i) + 2))] rfl cv_N_event.1 lk_6_142 cv_N_event.2.1 cv_N_event.2.2.1 rfl cv_N_event.2.2.2.1 rfl rfl (Nat.le_of_ble_eq_true rfl) (by decide) cv_N_event.2.2.2.2 (c_event_bad v (S.1 39 (3 * i)) (S.1 39 (3 * i + 1)) (S.1 39 (3 * i + 2)) (fun z => hok (decide_eq_true z))) ?_
        rintro r x ⟨hr, hu⟩
        rw [hr, hu]
        clear hr hu r x
        refine x_if_ge 88 rfl rfl (fun hn => absurd hn (by decide)) (fun h82 => ?_)
        refine run_ok 1 (c' := (87, [(0, .ref 0), (1, .int (nI 0)), (2, .ref 38), (3, .int (nI (sz / 3))), (4, .int (nI i)), (5, .int (nI (3 * i)))], [.int (nI i)], v)) rfl ?_
        refine x_ret (r := some (.int (nI i))) rfl rfl trivial ?_ rfl
        rw [hs]
        exact ⟨rfl, hT1, hk1, hf, h2⟩
  refine run_ok 2 (c' := (2, [(0, .ref 0), (1, .int (nI 0))], [.int (nI 4), .int (nI 0)], S)) rfl ?_
  refine x_callS [.int (nI 0), .int (nI 4)] rfl cs_N_isBelow.1 lk_6_73 cs_N_isBelow.2.1 rfl rfl (Nat.le_of_ble_eq_true rfl) (by decide) cs_N_isBelow.2.2 (c_isBelow S (nI 0) (nI 4)) ?_
  rintro r u ⟨hr, hu⟩
  rw [hr, hu]
  clear hr hu r u
  refine x_ifB_ne 11 rfl rfl (fun h5 => ?_) (fun hn => absurd (inr_t (by decide) (by decide)) hn)
  refine run_ok 3 (c' := (16, [(0, .ref 0), (1, .int (nI 0))], [.int (nI 0), .ref 37], S)) rfl ?_
  refine x_aald (t := 38) rfl rfl (vp_in_nI (by decide) (by decide)) (by decide) ?_
  refine run_ok 3 (c' := (22, [(0, .ref 0), (1, .int (nI 0)), (2, .ref 38)], [.int (S.1 38 3)], S)) rfl ?_
  refine x_top (v' := nI lo) g3 ?_
  refine x_ifN_eq 31 rfl rfl (by omega) (fun h22 => ?_) (fun hn => absurd hlo0 hn)
  refine run_ok 2 (c' := (35, [(0, .ref 0), (1, .int (nI 0)), (2, .ref 38)], [.int (S.1 38 2)], S)) rfl ?_
  refine x_top (v' := nI sz) g2 ?_
  refine run_ok 1 (c' := (36, [(0, .ref 0), (1, .int (nI 0)), (2, .ref 38)], [.int (nI 3), .int (nI sz)], S)) rfl ?_
  refine x_idiv rfl (by decide) ?_
  refine x_top (v' := nI (sz / 3)) (pk_div (by omega) (by omega) (by omega)) ?_
  refine run_ok 3 (c' := (41, [(0, .ref 0), (1, .int (nI 0)), (2, .ref 38), (3, .int (nI (sz / 3))), (4, .int (nI 0))], [], S)) rfl ?_
  exact H 0 (Nat.zero_le _) S T hT hto fr.rf rfl rfl

set_option maxHeartbeats 2000000 in
theorem c_read_null1 (S : ST) (lo fm sz : Nat) (hH : HR 40 lo fm sz S) (hlo : lo = 1) : EX me_N_read 2 [.ref 0, .int (nI 1)] S (fun r u => r = some (.int ((-10) - nI 1)) ∧ u = pt S 0 10 (nI 1)) := by
  refine EX.of mok_N_read (Nat.le_of_ble_eq_true rfl) ?_
  obtain ⟨g3, g1, g2, hl1, hf2, hs60⟩ := id hH
  refine run_ok 2 (c' := (2, [(0, .ref 0), (1, .int (nI 1))], [.int (nI 4), .int (nI 1)], S)) rfl ?_
  refine x_callS [.int (nI 1), .int (nI 4)] rfl cs_N_isBelow.1 lk_6_73 cs_N_isBelow.2.1 rfl rfl (Nat.le_of_ble_eq_true rfl) (by decide) cs_N_isBelow.2.2 (c_isBelow S (nI 1) (nI 4)) ?_
  rintro r u ⟨hr, hu⟩
  rw [hr, hu]
  clear hr hu r u
  refine x_ifB_ne 11 rfl rfl (fun h5 => ?_) (fun hn => absurd (inr_t (by decide) (by decide)) hn)
  refine run_ok 3 (c' := (16, [(0, .ref 0), (1, .int (nI 1))], [.int (nI 1), .ref 37], S)) rfl ?_
  refine x_aald (t := 40) rfl rfl (vp_in_nI (by decide) (by decide)) (by decide) ?_
  refine run_ok 3 (c' := (22, [(0, .ref 0), (1, .int (nI 1)), (2, .ref 40)], [.int (S.1 40 3)], S)) rfl ?_
  refine x_top (v' := nI lo) g3 ?_
  refine x_ifN_eq 31 rfl rfl (by omega) (fun hn => absurd hn (by omega)) (fun h22 => ?_)
  refine run_ok 2 (c' := (27, [(0, .ref 0), (1, .int (nI 1)), (2, .ref 40)], [.int (nI 1), .ref 0], S)) rfl ?_
  refine x_callV [.int (nI 1)] rfl cv_N_find.1 lk_6_134 cv_N_find.2.1 cv_N_find.2.2.1 rfl cv_N_find.2.2.2.1 rfl rfl (Nat.le_of_ble_eq_true rfl) (by decide) cv_N_find.2.2.2.2 (c_find S (1)) ?_
  rintro r x ⟨hr, hu⟩
  rw [hr, hu]
  clear hr hu r x
  exact x_ret (r := some (.int ((-10) - nI 1))) rfl rfl trivial ⟨rfl, rfl⟩ rfl

set_option maxHeartbeats 2000000 in
theorem c_read_ok1 (S : ST) (T : TD) (hT : TR 5 T S) (hto : tok T) (lo fm sz : Nat) (hH : HR 40 lo fm sz S) (hlo0 : lo = 0) : EX me_N_read 2 [.ref 0, .int (nI 1)] S (fun r u => r = some (.int (nI (rdf (S.1 41) (sz / 3) 0 T).1)) ∧ TR 5 (rdf (S.1 41) (sz / 3) 0 T).2 u ∧ tok (rdf (S.1 41) (sz / 3) 0 T).2 ∧ fr [5, 11, 12, 13] S u ∧ u.2 = S.2) := by
  refine EX.of mok_N_read (Nat.le_of_ble_eq_true rfl) ?_
  obtain ⟨g3, g1, g2, hl1, hf2, hs60⟩ := id hH
  have H : ∀ i, i ≤ sz / 3 → ∀ (v : ST) (T1 : TD), TR 5 T1 v → tok T1 → fr [5, 11, 12, 13] S v → v.2 = S.2 → rdf (S.1 41) (sz / 3) 0 T = rdf (S.1 41) (sz / 3 - i) i T1 → BX me_N_read 2 none (fun r u => r = some (.int (nI (rdf (S.1 41) (sz / 3) 0 T).1)) ∧ TR 5 (rdf (S.1 41) (sz / 3) 0 T).2 u ∧ tok (rdf (S.1 41) (sz / 3) 0 T).2 ∧ fr [5, 11, 12, 13] S u ∧ u.2 = S.2) (41, [(0, .ref 0), (1, .int (nI 1)), (2, .ref 40), (3, .int (nI (sz / 3))), (4, .int (nI i))], [], v) := by
    refine loop_up (P := fun i => ∀ (v : ST) (T1 : TD), TR 5 T1 v → tok T1 → fr [5, 11, 12, 13] S v → v.2 = S.2 → rdf (S.1 41) (sz / 3) 0 T = rdf (S.1 41) (sz / 3 - i) i T1 → BX me_N_read 2 none (fun r u => r = some (.int (nI (rdf (S.1 41) (sz / 3) 0 T).1)) ∧ TR 5 (rdf (S.1 41) (sz / 3) 0 T).2 u ∧ tok (rdf (S.1 41) (sz / 3) 0 T).2 ∧ fr [5, 11, 12, 13] S u ∧ u.2 = S.2) (41, [(0, .ref 0), (1, .int (nI 1)), (2, .ref 40), (3, .int (nI (sz / 3))), (4, .int (nI i))], [], v)) (sz / 3) ?_ ?_
    · intro v T1 hT1 hk1 hf h2 hs
      refine run_ok 2 (c' := (44, [(0, .ref 0), (1, .int (nI 1)), (2, .ref 40), (3, .int (nI (sz / 3))), (4, .int (nI (sz / 3)))], [.int (nI (sz / 3)), .int (nI (sz / 3))], v)) rfl ?_
      refine x_icmpN_ge 94 rfl rfl (by omega) (by omega) (fun h44 => ?_) (fun hn => absurd (Nat.le_refl _) hn)
      refine run_ok 1 (c' := (95, [(0, .ref 0), (1, .int (nI 1)), (2, .ref 40), (3, .int (nI (sz / 3))), (4, .int (nI (sz / 3)))], [.int (nI (sz / 3))], v)) rfl ?_
      refine x_ret (r := some (.int (nI (sz / 3)))) rfl rfl trivial ?_ rfl
      rw [Nat.sub_self] at hs
      rw [hs]
      exact ⟨rfl, hT1, hk1, hf, h2⟩
    · intro i hi ih v T1 hT1 hk1 hf h2 hs
      refine run_ok 2 (c' := (44, [(0, .ref 0), (1, .int (nI 1)), (2, .ref 40), (3, .int (nI (sz / 3))), (4, .int (nI i))], [.int (nI (sz / 3)), .int (nI i)], v)) rfl ?_
      refine x_icmpN_ge 94 rfl rfl (by omega) (by omega) (fun hn => absurd hn (show ¬ sz / 3 ≤ i by omega)) (fun h44 => ?_)
      refine run_ok 3 (c' := (51, [(0, .ref 0), (1, .int (nI 1)), (2, .ref 40), (3, .int (nI (sz / 3))), (4, .int (nI i))], [.int ((nI 3) * (nI i))], v)) rfl ?_
      refine x_top (v' := nI (3 * i)) (pk_mul _ _) ?_
      refine run_ok 5 (c' := (60, [(0, .ref 0), (1, .int (nI 1)), (2, .ref 40), (3, .int (nI (sz / 3))), (4, .int (nI i)), (5, .int (nI (3 * i)))], [.int (nI (3 * i)), .ref 41, .ref 0], v)) rfl ?_
      refine x_iaN (S.1 41 (3 * i)) rfl rfl (by decide) (by omega) (by rw [hf 41 (by decide)]) ?_
      refine run_ok 5 (c' := (69, [(0, .ref 0), (1, .int (nI 1)), (2, .ref 40), (3, .int (nI (sz / 3))), (4, .int (nI i)), (5, .int (nI (3 * i)))], [.int ((nI (3 * i)) + (nI 1)), .ref 41, .int (S.1 41 (3 * i)), .ref 0], v)) rfl ?_
      refine x_top (v' := nI ((3 * i) + 1)) (nI_add _ _) ?_
      refine x_iaN (S.1 41 ((3 * i) + 1)) rfl rfl (by decide) (by omega) (by rw [hf 41 (by decide)]) ?_
      refine run_ok 5 (c' := (78, [(0, .ref 0), (1, .int (nI 1)), (2, .ref 40), (3, .int (nI (sz / 3))), (4, .int (nI i)), (5, .int (nI (3 * i)))], [.int ((nI (3 * i)) + (nI 2)), .ref 41, .int (S.1 41 ((3 * i) + 1)), .int (S.1 41 (3 * i)), .ref 0], v)) rfl ?_
      refine x_top (v' := nI ((3 * i) + 2)) (nI_add _ _) ?_
      refine x_iaN (S.1 41 ((3 * i) + 2)) rfl rfl (by decide) (by omega) (by rw [hf 41 (by decide)]) ?_
      rw [show sz / 3 - i = (sz / 3 - (i + 1)) + 1 by omega] at hs
      by_cases hok : okd (S.1 41 (3 * i)) (S.1 41 (3 * i + 1)) (S.1 41 (3 * i + 2)) = true
      · obtain ⟨ok1, ok2, ok3⟩ := of_decide_eq_true hok
        obtain ⟨kd, hkd, e1⟩ := inr_f (by decide) ok1
        obtain ⟨wk, hwk, e2⟩ := inr_f (by decide) ok2
        obtain ⟨bo, hbo, e3⟩ := inr_f (by decide) ok3
        by_cases hne : tne T1 < 8
        · rw [show rdf (S.1 41) (sz / 3 - (i + 1) + 1) i T1 = rdf (S.1 41) (sz / 3 - (i + 1)) (i + 1) (adv T1 (S.1 41 (3 * i)) (S.1 41 (3 * i + 1)) (S.1 41 (3 * i + 2))) from if_pos ⟨hok, hne⟩] at hs
          rw [e1, e2, e3] at hs ⊢
          refine x_callV [.int (nI kd), .int (nI wk), .int (nI bo)] rfl cv_N_event.1 lk_6_142 cv_N_event.2.1 cv_N_event.2.2.1 rfl cv_N_event.2.2.2.1 rfl rfl (Nat.le_of_ble_eq_true rfl) (by decide) cv_N_event.2.2.2.2 (c_event_ok v T1 hT1 hk1 kd wk bo hkd hwk hbo hne) ?_
          rintro r z ⟨hr, hTz, hfz, h2z⟩
          rw [hr]
          clear hr r
          refine x_ifN_ge 88 rfl rfl (by omega) (fun h82 => ?_) (fun hn => absurd (Nat.zero_le _) hn)
          refine run_ok 1 (c' := (91, [(0, .ref 0), (1, .int (nI 1)), (2, .ref 40), (3, .int (nI (sz / 3))), (4, .int (nI i + nI 1)), (5, .int (nI (3 * i)))], [], z)) rfl ?_
          rw [nI_add i 1]
          refine run_ok 1 (c' := (41, [(0, .ref 0), (1, .int (nI 1)), (2, .ref 40), (3, .int (nI (sz / 3))), (4, .int (nI (i + 1))), (5, .int (nI (3 * i)))], [], z)) rfl ?_
          refine x_less [0, 1, 2, 3, 4] rfl ?_
          refine ih z (adv T1 (nI kd) (nI wk) (nI bo)) (by unfold adv; rw [nI_clamp (by omega), nI_clamp (by omega), nI_clamp (by omega)]; exact hTz) (tok_adv hk1 hne hkd hwk hbo) (hf.tr hfz) (h2z.trans h2) hs
        · rw [show rdf (S.1 41) (sz / 3 - (i + 1) + 1) i T1 = (i, T1) from if_neg (fun z => hne z.2)] at hs
          rw [e1, e2, e3]
          refine x_callV [.int (nI kd), .int (nI wk), .int (nI bo)] rfl cv_N_event.1 lk_6_142 cv_N_event.2.1 cv_N_event.2.2.1 rfl cv_N_event.2.2.2.1 rfl rfl (Nat.le_of_ble_eq_true rfl) (by decide) cv_N_event.2.2.2.2 (c_event_full v T1 hT1 hk1 kd wk bo hkd hwk hbo hne) ?_
          rintro r x ⟨hr, hu⟩
          rw [hr, hu]
          clear hr hu r x
          refine x_if_ge 88 rfl rfl (fun hn => absurd hn (by decide)) (fun h82 => ?_)
          refine run_ok 1 (c' := (87, [(0, .ref 0), (1, .int (nI 1)), (2, .ref 40), (3, .int (nI (sz / 3))), (4, .int (nI i)), (5, .int (nI (3 * i)))], [.int (nI i)], v)) rfl ?_
          refine x_ret (r := some (.int (nI i))) rfl rfl trivial ?_ rfl
          rw [hs]
          exact ⟨rfl, hT1, hk1, hf, h2⟩
      · rw [show rdf (S.1 41) (sz / 3 - (i + 1) + 1) i T1 = (i, T1) from if_neg (fun z => hok z.1)] at hs
        refine x_callV [.int (S.1 41 (3 * i)), .int (S.1 41 ((3 * i) + 1)), .int (S.1 41 ((3 * i) + 2))] rfl cv_N_event.1 lk_6_142 cv_N_event.2.1 cv_N_event.2.2.1 rfl cv_N_event.2.2.2.1 rfl rfl (Nat.le_of_ble_eq_true rfl) (by decide) cv_N_event.2.2.2.2 (c_event_bad v (S.1 41 (3 * i)) (S.1 41 (3 * i + 1)) (S.1 41 (3 * i + 2)) (fun z => hok (decide_eq_true z))) ?_
        rintro r x ⟨hr, hu⟩
        rw [hr, hu]
        clear hr hu r x
        refine x_if_ge 88 rfl rfl (fun hn => absurd hn (by decide)) (fun h82 => ?_)
        refine run_ok 1 (c' := (87, [(0, .ref 0), (1, .int (nI 1)), (2, .ref 40), (3, .int (nI (sz / 3))), (4, .int (nI i)), (5, .int (nI (3 * i)))], [.int (nI i)], v)) rfl ?_
        refine x_ret (r := some (.int (nI i))) rfl rfl trivial ?_ rfl
        rw [hs]
        exact ⟨rfl, hT1, hk1, hf, h2⟩
  refine run_ok 2 (c' := (2, [(0, .ref 0), (1, .int (nI 1))], [.int (nI 4), .int (nI 1)], S)) rfl ?_
  refine x_callS [.int (nI 1), .int (nI 4)] rfl cs_N_isBelow.1 lk_6_73 cs_N_isBelow.2.1 rfl rfl (Nat.le_of_ble_eq_true rfl) (by decide) cs_N_isBelow.2.2 (c_isBelow S (nI 1) (nI 4)) ?_
  rintro r u ⟨hr, hu⟩
  rw [hr, hu]
  clear hr hu r u
  refine x_ifB_ne 11 rfl rfl (fun h5 => ?_) (fun hn => absurd (inr_t (by decide) (by decide)) hn)
  refine run_ok 3 (c' := (16, [(0, .ref 0), (1, .int (nI 1))], [.int (nI 1), .ref 37], S)) rfl ?_
  refine x_aald (t := 40) rfl rfl (vp_in_nI (by decide) (by decide)) (by decide) ?_
  refine run_ok 3 (c' := (22, [(0, .ref 0), (1, .int (nI 1)), (2, .ref 40)], [.int (S.1 40 3)], S)) rfl ?_
  refine x_top (v' := nI lo) g3 ?_
  refine x_ifN_eq 31 rfl rfl (by omega) (fun h22 => ?_) (fun hn => absurd hlo0 hn)
  refine run_ok 2 (c' := (35, [(0, .ref 0), (1, .int (nI 1)), (2, .ref 40)], [.int (S.1 40 2)], S)) rfl ?_
  refine x_top (v' := nI sz) g2 ?_
  refine run_ok 1 (c' := (36, [(0, .ref 0), (1, .int (nI 1)), (2, .ref 40)], [.int (nI 3), .int (nI sz)], S)) rfl ?_
  refine x_idiv rfl (by decide) ?_
  refine x_top (v' := nI (sz / 3)) (pk_div (by omega) (by omega) (by omega)) ?_
  refine run_ok 3 (c' := (41, [(0, .ref 0), (1, .int (nI 1)), (2, .ref 40), (3, .int (nI (sz / 3))), (4, .int (nI 0))], [], S)) rfl ?_
  exact H 0 (Nat.zero_le _) S T hT hto fr.rf rfl rfl

set_option maxHeartbeats 2000000 in
theorem c_read_null2 (S : ST) (lo fm sz : Nat) (hH : HR 42 lo fm sz S) (hlo : lo = 1) : EX me_N_read 2 [.ref 0, .int (nI 2)] S (fun r u => r = some (.int ((-10) - nI 1)) ∧ u = pt S 0 10 (nI 1)) := by
  refine EX.of mok_N_read (Nat.le_of_ble_eq_true rfl) ?_
  obtain ⟨g3, g1, g2, hl1, hf2, hs60⟩ := id hH
  refine run_ok 2 (c' := (2, [(0, .ref 0), (1, .int (nI 2))], [.int (nI 4), .int (nI 2)], S)) rfl ?_
  refine x_callS [.int (nI 2), .int (nI 4)] rfl cs_N_isBelow.1 lk_6_73 cs_N_isBelow.2.1 rfl rfl (Nat.le_of_ble_eq_true rfl) (by decide) cs_N_isBelow.2.2 (c_isBelow S (nI 2) (nI 4)) ?_
  rintro r u ⟨hr, hu⟩
  rw [hr, hu]
  clear hr hu r u
  refine x_ifB_ne 11 rfl rfl (fun h5 => ?_) (fun hn => absurd (inr_t (by decide) (by decide)) hn)
  refine run_ok 3 (c' := (16, [(0, .ref 0), (1, .int (nI 2))], [.int (nI 2), .ref 37], S)) rfl ?_
  refine x_aald (t := 42) rfl rfl (vp_in_nI (by decide) (by decide)) (by decide) ?_
  refine run_ok 3 (c' := (22, [(0, .ref 0), (1, .int (nI 2)), (2, .ref 42)], [.int (S.1 42 3)], S)) rfl ?_
  refine x_top (v' := nI lo) g3 ?_
  refine x_ifN_eq 31 rfl rfl (by omega) (fun hn => absurd hn (by omega)) (fun h22 => ?_)
  refine run_ok 2 (c' := (27, [(0, .ref 0), (1, .int (nI 2)), (2, .ref 42)], [.int (nI 1), .ref 0], S)) rfl ?_
  refine x_callV [.int (nI 1)] rfl cv_N_find.1 lk_6_134 cv_N_find.2.1 cv_N_find.2.2.1 rfl cv_N_find.2.2.2.1 rfl rfl (Nat.le_of_ble_eq_true rfl) (by decide) cv_N_find.2.2.2.2 (c_find S (1)) ?_
  rintro r x ⟨hr, hu⟩
  rw [hr, hu]
  clear hr hu r x
  exact x_ret (r := some (.int ((-10) - nI 1))) rfl rfl trivial ⟨rfl, rfl⟩ rfl

set_option maxHeartbeats 2000000 in
theorem c_read_ok2 (S : ST) (T : TD) (hT : TR 5 T S) (hto : tok T) (lo fm sz : Nat) (hH : HR 42 lo fm sz S) (hlo0 : lo = 0) : EX me_N_read 2 [.ref 0, .int (nI 2)] S (fun r u => r = some (.int (nI (rdf (S.1 43) (sz / 3) 0 T).1)) ∧ TR 5 (rdf (S.1 43) (sz / 3) 0 T).2 u ∧ tok (rdf (S.1 43) (sz / 3) 0 T).2 ∧ fr [5, 11, 12, 13] S u ∧ u.2 = S.2) := by
  refine EX.of mok_N_read (Nat.le_of_ble_eq_true rfl) ?_
  obtain ⟨g3, g1, g2, hl1, hf2, hs60⟩ := id hH
  have H : ∀ i, i ≤ sz / 3 → ∀ (v : ST) (T1 : TD), TR 5 T1 v → tok T1 → fr [5, 11, 12, 13] S v → v.2 = S.2 → rdf (S.1 43) (sz / 3) 0 T = rdf (S.1 43) (sz / 3 - i) i T1 → BX me_N_read 2 none (fun r u => r = some (.int (nI (rdf (S.1 43) (sz / 3) 0 T).1)) ∧ TR 5 (rdf (S.1 43) (sz / 3) 0 T).2 u ∧ tok (rdf (S.1 43) (sz / 3) 0 T).2 ∧ fr [5, 11, 12, 13] S u ∧ u.2 = S.2) (41, [(0, .ref 0), (1, .int (nI 2)), (2, .ref 42), (3, .int (nI (sz / 3))), (4, .int (nI i))], [], v) := by
    refine loop_up (P := fun i => ∀ (v : ST) (T1 : TD), TR 5 T1 v → tok T1 → fr [5, 11, 12, 13] S v → v.2 = S.2 → rdf (S.1 43) (sz / 3) 0 T = rdf (S.1 43) (sz / 3 - i) i T1 → BX me_N_read 2 none (fun r u => r = some (.int (nI (rdf (S.1 43) (sz / 3) 0 T).1)) ∧ TR 5 (rdf (S.1 43) (sz / 3) 0 T).2 u ∧ tok (rdf (S.1 43) (sz / 3) 0 T).2 ∧ fr [5, 11, 12, 13] S u ∧ u.2 = S.2) (41, [(0, .ref 0), (1, .int (nI 2)), (2, .ref 42), (3, .int (nI (sz / 3))), (4, .int (nI i))], [], v)) (sz / 3) ?_ ?_
    · intro v T1 hT1 hk1 hf h2 hs
      refine run_ok 2 (c' := (44, [(0, .ref 0), (1, .int (nI 2)), (2, .ref 42), (3, .int (nI (sz / 3))), (4, .int (nI (sz / 3)))], [.int (nI (sz / 3)), .int (nI (sz / 3))], v)) rfl ?_
      refine x_icmpN_ge 94 rfl rfl (by omega) (by omega) (fun h44 => ?_) (fun hn => absurd (Nat.le_refl _) hn)
      refine run_ok 1 (c' := (95, [(0, .ref 0), (1, .int (nI 2)), (2, .ref 42), (3, .int (nI (sz / 3))), (4, .int (nI (sz / 3)))], [.int (nI (sz / 3))], v)) rfl ?_
      refine x_ret (r := some (.int (nI (sz / 3)))) rfl rfl trivial ?_ rfl
      rw [Nat.sub_self] at hs
      rw [hs]
      exact ⟨rfl, hT1, hk1, hf, h2⟩
    · intro i hi ih v T1 hT1 hk1 hf h2 hs
      refine run_ok 2 (c' := (44, [(0, .ref 0), (1, .int (nI 2)), (2, .ref 42), (3, .int (nI (sz / 3))), (4, .int (nI i))], [.int (nI (sz / 3)), .int (nI i)], v)) rfl ?_
      refine x_icmpN_ge 94 rfl rfl (by omega) (by omega) (fun hn => absurd hn (show ¬ sz / 3 ≤ i by omega)) (fun h44 => ?_)
      refine run_ok 3 (c' := (51, [(0, .ref 0), (1, .int (nI 2)), (2, .ref 42), (3, .int (nI (sz / 3))), (4, .int (nI i))], [.int ((nI 3) * (nI i))], v)) rfl ?_
      refine x_top (v' := nI (3 * i)) (pk_mul _ _) ?_
      refine run_ok 5 (c' := (60, [(0, .ref 0), (1, .int (nI 2)), (2, .ref 42), (3, .int (nI (sz / 3))), (4, .int (nI i)), (5, .int (nI (3 * i)))], [.int (nI (3 * i)), .ref 43, .ref 0], v)) rfl ?_
      refine x_iaN (S.1 43 (3 * i)) rfl rfl (by decide) (by omega) (by rw [hf 43 (by decide)]) ?_
      refine run_ok 5 (c' := (69, [(0, .ref 0), (1, .int (nI 2)), (2, .ref 42), (3, .int (nI (sz / 3))), (4, .int (nI i)), (5, .int (nI (3 * i)))], [.int ((nI (3 * i)) + (nI 1)), .ref 43, .int (S.1 43 (3 * i)), .ref 0], v)) rfl ?_
      refine x_top (v' := nI ((3 * i) + 1)) (nI_add _ _) ?_
      refine x_iaN (S.1 43 ((3 * i) + 1)) rfl rfl (by decide) (by omega) (by rw [hf 43 (by decide)]) ?_
      refine run_ok 5 (c' := (78, [(0, .ref 0), (1, .int (nI 2)), (2, .ref 42), (3, .int (nI (sz / 3))), (4, .int (nI i)), (5, .int (nI (3 * i)))], [.int ((nI (3 * i)) + (nI 2)), .ref 43, .int (S.1 43 ((3 * i) + 1)), .int (S.1 43 (3 * i)), .ref 0], v)) rfl ?_
      refine x_top (v' := nI ((3 * i) + 2)) (nI_add _ _) ?_
      refine x_iaN (S.1 43 ((3 * i) + 2)) rfl rfl (by decide) (by omega) (by rw [hf 43 (by decide)]) ?_
      rw [show sz / 3 - i = (sz / 3 - (i + 1)) + 1 by omega] at hs
      by_cases hok : okd (S.1 43 (3 * i)) (S.1 43 (3 * i + 1)) (S.1 43 (3 * i + 2)) = true
      · obtain ⟨ok1, ok2, ok3⟩ := of_decide_eq_true hok
        obtain ⟨kd, hkd, e1⟩ := inr_f (by decide) ok1
        obtain ⟨wk, hwk, e2⟩ := inr_f (by decide) ok2
        obtain ⟨bo, hbo, e3⟩ := inr_f (by decide) ok3
        by_cases hne : tne T1 < 8
        · rw [show rdf (S.1 43) (sz / 3 - (i + 1) + 1) i T1 = rdf (S.1 43) (sz / 3 - (i + 1)) (i + 1) (adv T1 (S.1 43 (3 * i)) (S.1 43 (3 * i + 1)) (S.1 43 (3 * i + 2))) from if_pos ⟨hok, hne⟩] at hs
          rw [e1, e2, e3] at hs ⊢
          refine x_callV [.int (nI kd), .int (nI wk), .int (nI bo)] rfl cv_N_event.1 lk_6_142 cv_N_event.2.1 cv_N_event.2.2.1 rfl cv_N_event.2.2.2.1 rfl rfl (Nat.le_of_ble_eq_true rfl) (by decide) cv_N_event.2.2.2.2 (c_event_ok v T1 hT1 hk1 kd wk bo hkd hwk hbo hne) ?_
          rintro r z ⟨hr, hTz, hfz, h2z⟩
          rw [hr]
          clear hr r
          refine x_ifN_ge 88 rfl rfl (by omega) (fun h82 => ?_) (fun hn => absurd (Nat.zero_le _) hn)
          refine run_ok 1 (c' := (91, [(0, .ref 0), (1, .int (nI 2)), (2, .ref 42), (3, .int (nI (sz / 3))), (4, .int (nI i + nI 1)), (5, .int (nI (3 * i)))], [], z)) rfl ?_
          rw [nI_add i 1]
          refine run_ok 1 (c' := (41, [(0, .ref 0), (1, .int (nI 2)), (2, .ref 42), (3, .int (nI (sz / 3))), (4, .int (nI (i + 1))), (5, .int (nI (3 * i)))], [], z)) rfl ?_
          refine x_less [0, 1, 2, 3, 4] rfl ?_
          refine ih z (adv T1 (nI kd) (nI wk) (nI bo)) (by unfold adv; rw [nI_clamp (by omega), nI_clamp (by omega), nI_clamp (by omega)]; exact hTz) (tok_adv hk1 hne hkd hwk hbo) (hf.tr hfz) (h2z.trans h2) hs
        · rw [show rdf (S.1 43) (sz / 3 - (i + 1) + 1) i T1 = (i, T1) from if_neg (fun z => hne z.2)] at hs
          rw [e1, e2, e3]
          refine x_callV [.int (nI kd), .int (nI wk), .int (nI bo)] rfl cv_N_event.1 lk_6_142 cv_N_event.2.1 cv_N_event.2.2.1 rfl cv_N_event.2.2.2.1 rfl rfl (Nat.le_of_ble_eq_true rfl) (by decide) cv_N_event.2.2.2.2 (c_event_full v T1 hT1 hk1 kd wk bo hkd hwk hbo hne) ?_
          rintro r x ⟨hr, hu⟩
          rw [hr, hu]
          clear hr hu r x
          refine x_if_ge 88 rfl rfl (fun hn => absurd hn (by decide)) (fun h82 => ?_)
          refine run_ok 1 (c' := (87, [(0, .ref 0), (1, .int (nI 2)), (2, .ref 42), (3, .int (nI (sz / 3))), (4, .int (nI i)), (5, .int (nI (3 * i)))], [.int (nI i)], v)) rfl ?_
          refine x_ret (r := some (.int (nI i))) rfl rfl trivial ?_ rfl
          rw [hs]
          exact ⟨rfl, hT1, hk1, hf, h2⟩
      · rw [show rdf (S.1 43) (sz / 3 - (i + 1) + 1) i T1 = (i, T1) from if_neg (fun z => hok z.1)] at hs
        refine x_callV [.int (S.1 43 (3 * i)), .int (S.1 43 ((3 * i) + 1)), .int (S.1 43 ((3 * i) + 2))] rfl cv_N_event.1 lk_6_142 cv_N_event.2.1 cv_N_event.2.2.1 rfl cv_N_event.2.2.2.1 rfl rfl (Nat.le_of_ble_eq_true rfl) (by decide) cv_N_event.2.2.2.2 (c_event_bad v (S.1 43 (3 * i)) (S.1 43 (3 * i + 1)) (S.1 43 (3 * i + 2)) (fun z => hok (decide_eq_true z))) ?_
        rintro r x ⟨hr, hu⟩
        rw [hr, hu]
        clear hr hu r x
        refine x_if_ge 88 rfl rfl (fun hn => absurd hn (by decide)) (fun h82 => ?_)
        refine run_ok 1 (c' := (87, [(0, .ref 0), (1, .int (nI 2)), (2, .ref 42), (3, .int (nI (sz / 3))), (4, .int (nI i)), (5, .int (nI (3 * i)))], [.int (nI i)], v)) rfl ?_
        refine x_ret (r := some (.int (nI i))) rfl rfl trivial ?_ rfl
        rw [hs]
        exact ⟨rfl, hT1, hk1, hf, h2⟩
  refine run_ok 2 (c' := (2, [(0, .ref 0), (1, .int (nI 2))], [.int (nI 4), .int (nI 2)], S)) rfl ?_
  refine x_callS [.int (nI 2), .int (nI 4)] rfl cs_N_isBelow.1 lk_6_73 cs_N_isBelow.2.1 rfl rfl (Nat.le_of_ble_eq_true rfl) (by decide) cs_N_isBelow.2.2 (c_isBelow S (nI 2) (nI 4)) ?_
  rintro r u ⟨hr, hu⟩
  rw [hr, hu]
  clear hr hu r u
  refine x_ifB_ne 11 rfl rfl (fun h5 => ?_) (fun hn => absurd (inr_t (by decide) (by decide)) hn)
  refine run_ok 3 (c' := (16, [(0, .ref 0), (1, .int (nI 2))], [.int (nI 2), .ref 37], S)) rfl ?_
  refine x_aald (t := 42) rfl rfl (vp_in_nI (by decide) (by decide)) (by decide) ?_
  refine run_ok 3 (c' := (22, [(0, .ref 0), (1, .int (nI 2)), (2, .ref 42)], [.int (S.1 42 3)], S)) rfl ?_
  refine x_top (v' := nI lo) g3 ?_
  refine x_ifN_eq 31 rfl rfl (by omega) (fun h22 => ?_) (fun hn => absurd hlo0 hn)
  refine run_ok 2 (c' := (35, [(0, .ref 0), (1, .int (nI 2)), (2, .ref 42)], [.int (S.1 42 2)], S)) rfl ?_
  refine x_top (v' := nI sz) g2 ?_
  refine run_ok 1 (c' := (36, [(0, .ref 0), (1, .int (nI 2)), (2, .ref 42)], [.int (nI 3), .int (nI sz)], S)) rfl ?_
  refine x_idiv rfl (by decide) ?_
  refine x_top (v' := nI (sz / 3)) (pk_div (by omega) (by omega) (by omega)) ?_
  refine run_ok 3 (c' := (41, [(0, .ref 0), (1, .int (nI 2)), (2, .ref 42), (3, .int (nI (sz / 3))), (4, .int (nI 0))], [], S)) rfl ?_
  exact H 0 (Nat.zero_le _) S T hT hto fr.rf rfl rfl

set_option maxHeartbeats 2000000 in
theorem c_read_null3 (S : ST) (lo fm sz : Nat) (hH : HR 44 lo fm sz S) (hlo : lo = 1) : EX me_N_read 2 [.ref 0, .int (nI 3)] S (fun r u => r = some (.int ((-10) - nI 1)) ∧ u = pt S 0 10 (nI 1)) := by
  refine EX.of mok_N_read (Nat.le_of_ble_eq_true rfl) ?_
  obtain ⟨g3, g1, g2, hl1, hf2, hs60⟩ := id hH
  refine run_ok 2 (c' := (2, [(0, .ref 0), (1, .int (nI 3))], [.int (nI 4), .int (nI 3)], S)) rfl ?_
  refine x_callS [.int (nI 3), .int (nI 4)] rfl cs_N_isBelow.1 lk_6_73 cs_N_isBelow.2.1 rfl rfl (Nat.le_of_ble_eq_true rfl) (by decide) cs_N_isBelow.2.2 (c_isBelow S (nI 3) (nI 4)) ?_
  rintro r u ⟨hr, hu⟩
  rw [hr, hu]
  clear hr hu r u
  refine x_ifB_ne 11 rfl rfl (fun h5 => ?_) (fun hn => absurd (inr_t (by decide) (by decide)) hn)
  refine run_ok 3 (c' := (16, [(0, .ref 0), (1, .int (nI 3))], [.int (nI 3), .ref 37], S)) rfl ?_
  refine x_aald (t := 44) rfl rfl (vp_in_nI (by decide) (by decide)) (by decide) ?_
  refine run_ok 3 (c' := (22, [(0, .ref 0), (1, .int (nI 3)), (2, .ref 44)], [.int (S.1 44 3)], S)) rfl ?_
  refine x_top (v' := nI lo) g3 ?_
  refine x_ifN_eq 31 rfl rfl (by omega) (fun hn => absurd hn (by omega)) (fun h22 => ?_)
  refine run_ok 2 (c' := (27, [(0, .ref 0), (1, .int (nI 3)), (2, .ref 44)], [.int (nI 1), .ref 0], S)) rfl ?_
  refine x_callV [.int (nI 1)] rfl cv_N_find.1 lk_6_134 cv_N_find.2.1 cv_N_find.2.2.1 rfl cv_N_find.2.2.2.1 rfl rfl (Nat.le_of_ble_eq_true rfl) (by decide) cv_N_find.2.2.2.2 (c_find S (1)) ?_
  rintro r x ⟨hr, hu⟩
  rw [hr, hu]
  clear hr hu r x
  exact x_ret (r := some (.int ((-10) - nI 1))) rfl rfl trivial ⟨rfl, rfl⟩ rfl

set_option maxHeartbeats 2000000 in
theorem c_read_ok3 (S : ST) (T : TD) (hT : TR 5 T S) (hto : tok T) (lo fm sz : Nat) (hH : HR 44 lo fm sz S) (hlo0 : lo = 0) : EX me_N_read 2 [.ref 0, .int (nI 3)] S (fun r u => r = some (.int (nI (rdf (S.1 45) (sz / 3) 0 T).1)) ∧ TR 5 (rdf (S.1 45) (sz / 3) 0 T).2 u ∧ tok (rdf (S.1 45) (sz / 3) 0 T).2 ∧ fr [5, 11, 12, 13] S u ∧ u.2 = S.2) := by
  refine EX.of mok_N_read (Nat.le_of_ble_eq_true rfl) ?_
  obtain ⟨g3, g1, g2, hl1, hf2, hs60⟩ := id hH
  have H : ∀ i, i ≤ sz / 3 → ∀ (v : ST) (T1 : TD), TR 5 T1 v → tok T1 → fr [5, 11, 12, 13] S v → v.2 = S.2 → rdf (S.1 45) (sz / 3) 0 T = rdf (S.1 45) (sz / 3 - i) i T1 → BX me_N_read 2 none (fun r u => r = some (.int (nI (rdf (S.1 45) (sz / 3) 0 T).1)) ∧ TR 5 (rdf (S.1 45) (sz / 3) 0 T).2 u ∧ tok (rdf (S.1 45) (sz / 3) 0 T).2 ∧ fr [5, 11, 12, 13] S u ∧ u.2 = S.2) (41, [(0, .ref 0), (1, .int (nI 3)), (2, .ref 44), (3, .int (nI (sz / 3))), (4, .int (nI i))], [], v) := by
    refine loop_up (P := fun i => ∀ (v : ST) (T1 : TD), TR 5 T1 v → tok T1 → fr [5, 11, 12, 13] S v → v.2 = S.2 → rdf (S.1 45) (sz / 3) 0 T = rdf (S.1 45) (sz / 3 - i) i T1 → BX me_N_read 2 none (fun r u => r = some (.int (nI (rdf (S.1 45) (sz / 3) 0 T).1)) ∧ TR 5 (rdf (S.1 45) (sz / 3) 0 T).2 u ∧ tok (rdf (S.1 45) (sz / 3) 0 T).2 ∧ fr [5, 11, 12, 13] S u ∧ u.2 = S.2) (41, [(0, .ref 0), (1, .int (nI 3)), (2, .ref 44), (3, .int (nI (sz / 3))), (4, .int (nI i))], [], v)) (sz / 3) ?_ ?_
    · intro v T1 hT1 hk1 hf h2 hs
      refine run_ok 2 (c' := (44, [(0, .ref 0), (1, .int (nI 3)), (2, .ref 44), (3, .int (nI (sz / 3))), (4, .int (nI (sz / 3)))], [.int (nI (sz / 3)), .int (nI (sz / 3))], v)) rfl ?_
      refine x_icmpN_ge 94 rfl rfl (by omega) (by omega) (fun h44 => ?_) (fun hn => absurd (Nat.le_refl _) hn)
      refine run_ok 1 (c' := (95, [(0, .ref 0), (1, .int (nI 3)), (2, .ref 44), (3, .int (nI (sz / 3))), (4, .int (nI (sz / 3)))], [.int (nI (sz / 3))], v)) rfl ?_
      refine x_ret (r := some (.int (nI (sz / 3)))) rfl rfl trivial ?_ rfl
      rw [Nat.sub_self] at hs
      rw [hs]
      exact ⟨rfl, hT1, hk1, hf, h2⟩
    · intro i hi ih v T1 hT1 hk1 hf h2 hs
      refine run_ok 2 (c' := (44, [(0, .ref 0), (1, .int (nI 3)), (2, .ref 44), (3, .int (nI (sz / 3))), (4, .int (nI i))], [.int (nI (sz / 3)), .int (nI i)], v)) rfl ?_
      refine x_icmpN_ge 94 rfl rfl (by omega) (by omega) (fun hn => absurd hn (show ¬ sz / 3 ≤ i by omega)) (fun h44 => ?_)
      refine run_ok 3 (c' := (51, [(0, .ref 0), (1, .int (nI 3)), (2, .ref 44), (3, .int (nI (sz / 3))), (4, .int (nI i))], [.int ((nI 3) * (nI i))], v)) rfl ?_
      refine x_top (v' := nI (3 * i)) (pk_mul _ _) ?_
      refine run_ok 5 (c' := (60, [(0, .ref 0), (1, .int (nI 3)), (2, .ref 44), (3, .int (nI (sz / 3))), (4, .int (nI i)), (5, .int (nI (3 * i)))], [.int (nI (3 * i)), .ref 45, .ref 0], v)) rfl ?_
      refine x_iaN (S.1 45 (3 * i)) rfl rfl (by decide) (by omega) (by rw [hf 45 (by decide)]) ?_
      refine run_ok 5 (c' := (69, [(0, .ref 0), (1, .int (nI 3)), (2, .ref 44), (3, .int (nI (sz / 3))), (4, .int (nI i)), (5, .int (nI (3 * i)))], [.int ((nI (3 * i)) + (nI 1)), .ref 45, .int (S.1 45 (3 * i)), .ref 0], v)) rfl ?_
      refine x_top (v' := nI ((3 * i) + 1)) (nI_add _ _) ?_
      refine x_iaN (S.1 45 ((3 * i) + 1)) rfl rfl (by decide) (by omega) (by rw [hf 45 (by decide)]) ?_
      refine run_ok 5 (c' := (78, [(0, .ref 0), (1, .int (nI 3)), (2, .ref 44), (3, .int (nI (sz / 3))), (4, .int (nI i)), (5, .int (nI (3 * i)))], [.int ((nI (3 * i)) + (nI 2)), .ref 45, .int (S.1 45 ((3 * i) + 1)), .int (S.1 45 (3 * i)), .ref 0], v)) rfl ?_
      refine x_top (v' := nI ((3 * i) + 2)) (nI_add _ _) ?_
      refine x_iaN (S.1 45 ((3 * i) + 2)) rfl rfl (by decide) (by omega) (by rw [hf 45 (by decide)]) ?_
      rw [show sz / 3 - i = (sz / 3 - (i + 1)) + 1 by omega] at hs
      by_cases hok : okd (S.1 45 (3 * i)) (S.1 45 (3 * i + 1)) (S.1 45 (3 * i + 2)) = true
      · obtain ⟨ok1, ok2, ok3⟩ := of_decide_eq_true hok
        obtain ⟨kd, hkd, e1⟩ := inr_f (by decide) ok1
        obtain ⟨wk, hwk, e2⟩ := inr_f (by decide) ok2
        obtain ⟨bo, hbo, e3⟩ := inr_f (by decide) ok3
        by_cases hne : tne T1 < 8
        · rw [show rdf (S.1 45) (sz / 3 - (i + 1) + 1) i T1 = rdf (S.1 45) (sz / 3 - (i + 1)) (i + 1) (adv T1 (S.1 45 (3 * i)) (S.1 45 (3 * i + 1)) (S.1 45 (3 * i + 2))) from if_pos ⟨hok, hne⟩] at hs
          rw [e1, e2, e3] at hs ⊢
          refine x_callV [.int (nI kd), .int (nI wk), .int (nI bo)] rfl cv_N_event.1 lk_6_142 cv_N_event.2.1 cv_N_event.2.2.1 rfl cv_N_event.2.2.2.1 rfl rfl (Nat.le_of_ble_eq_true rfl) (by decide) cv_N_event.2.2.2.2 (c_event_ok v T1 hT1 hk1 kd wk bo hkd hwk hbo hne) ?_
          rintro r z ⟨hr, hTz, hfz, h2z⟩
          rw [hr]
          clear hr r
          refine x_ifN_ge 88 rfl rfl (by omega) (fun h82 => ?_) (fun hn => absurd (Nat.zero_le _) hn)
          refine run_ok 1 (c' := (91, [(0, .ref 0), (1, .int (nI 3)), (2, .ref 44), (3, .int (nI (sz / 3))), (4, .int (nI i + nI 1)), (5, .int (nI (3 * i)))], [], z)) rfl ?_
          rw [nI_add i 1]
          refine run_ok 1 (c' := (41, [(0, .ref 0), (1, .int (nI 3)), (2, .ref 44), (3, .int (nI (sz / 3))), (4, .int (nI (i + 1))), (5, .int (nI (3 * i)))], [], z)) rfl ?_
          refine x_less [0, 1, 2, 3, 4] rfl ?_
          refine ih z (adv T1 (nI kd) (nI wk) (nI bo)) (by unfold adv; rw [nI_clamp (by omega), nI_clamp (by omega), nI_clamp (by omega)]; exact hTz) (tok_adv hk1 hne hkd hwk hbo) (hf.tr hfz) (h2z.trans h2) hs
        · rw [show rdf (S.1 45) (sz / 3 - (i + 1) + 1) i T1 = (i, T1) from if_neg (fun z => hne z.2)] at hs
          rw [e1, e2, e3]
          refine x_callV [.int (nI kd), .int (nI wk), .int (nI bo)] rfl cv_N_event.1 lk_6_142 cv_N_event.2.1 cv_N_event.2.2.1 rfl cv_N_event.2.2.2.1 rfl rfl (Nat.le_of_ble_eq_true rfl) (by decide) cv_N_event.2.2.2.2 (c_event_full v T1 hT1 hk1 kd wk bo hkd hwk hbo hne) ?_
          rintro r x ⟨hr, hu⟩
          rw [hr, hu]
          clear hr hu r x
          refine x_if_ge 88 rfl rfl (fun hn => absurd hn (by decide)) (fun h82 => ?_)
          refine run_ok 1 (c' := (87, [(0, .ref 0), (1, .int (nI 3)), (2, .ref 44), (3, .int (nI (sz / 3))), (4, .int (nI i)), (5, .int (nI (3 * i)))], [.int (nI i)], v)) rfl ?_
          refine x_ret (r := some (.int (nI i))) rfl rfl trivial ?_ rfl
          rw [hs]
          exact ⟨rfl, hT1, hk1, hf, h2⟩
      · rw [show rdf (S.1 45) (sz / 3 - (i + 1) + 1) i T1 = (i, T1) from if_neg (fun z => hok z.1)] at hs
        refine x_callV [.int (S.1 45 (3 * i)), .int (S.1 45 ((3 * i) + 1)), .int (S.1 45 ((3 * i) + 2))] rfl cv_N_event.1 lk_6_142 cv_N_event.2.1 cv_N_event.2.2.1 rfl cv_N_event.2.2.2.1 rfl rfl (Nat.le_of_ble_eq_true rfl) (by decide) cv_N_event.2.2.2.2 (c_event_bad v (S.1 45 (3 * i)) (S.1 45 (3 * i + 1)) (S.1 45 (3 * i + 2)) (fun z => hok (decide_eq_true z))) ?_
        rintro r x ⟨hr, hu⟩
        rw [hr, hu]
        clear hr hu r x
        refine x_if_ge 88 rfl rfl (fun hn => absurd hn (by decide)) (fun h82 => ?_)
        refine run_ok 1 (c' := (87, [(0, .ref 0), (1, .int (nI 3)), (2, .ref 44), (3, .int (nI (sz / 3))), (4, .int (nI i)), (5, .int (nI (3 * i)))], [.int (nI i)], v)) rfl ?_
        refine x_ret (r := some (.int (nI i))) rfl rfl trivial ?_ rfl
        rw [hs]
        exact ⟨rfl, hT1, hk1, hf, h2⟩
  refine run_ok 2 (c' := (2, [(0, .ref 0), (1, .int (nI 3))], [.int (nI 4), .int (nI 3)], S)) rfl ?_
  refine x_callS [.int (nI 3), .int (nI 4)] rfl cs_N_isBelow.1 lk_6_73 cs_N_isBelow.2.1 rfl rfl (Nat.le_of_ble_eq_true rfl) (by decide) cs_N_isBelow.2.2 (c_isBelow S (nI 3) (nI 4)) ?_
  rintro r u ⟨hr, hu⟩
  rw [hr, hu]
  clear hr hu r u
  refine x_ifB_ne 11 rfl rfl (fun h5 => ?_) (fun hn => absurd (inr_t (by decide) (by decide)) hn)
  refine run_ok 3 (c' := (16, [(0, .ref 0), (1, .int (nI 3))], [.int (nI 3), .ref 37], S)) rfl ?_
  refine x_aald (t := 44) rfl rfl (vp_in_nI (by decide) (by decide)) (by decide) ?_
  refine run_ok 3 (c' := (22, [(0, .ref 0), (1, .int (nI 3)), (2, .ref 44)], [.int (S.1 44 3)], S)) rfl ?_
  refine x_top (v' := nI lo) g3 ?_
  refine x_ifN_eq 31 rfl rfl (by omega) (fun h22 => ?_) (fun hn => absurd hlo0 hn)
  refine run_ok 2 (c' := (35, [(0, .ref 0), (1, .int (nI 3)), (2, .ref 44)], [.int (S.1 44 2)], S)) rfl ?_
  refine x_top (v' := nI sz) g2 ?_
  refine run_ok 1 (c' := (36, [(0, .ref 0), (1, .int (nI 3)), (2, .ref 44)], [.int (nI 3), .int (nI sz)], S)) rfl ?_
  refine x_idiv rfl (by decide) ?_
  refine x_top (v' := nI (sz / 3)) (pk_div (by omega) (by omega) (by omega)) ?_
  refine run_ok 3 (c' := (41, [(0, .ref 0), (1, .int (nI 3)), (2, .ref 44), (3, .int (nI (sz / 3))), (4, .int (nI 0))], [], S)) rfl ?_
  exact H 0 (Nat.zero_le _) S T hT hto fr.rf rfl rfl


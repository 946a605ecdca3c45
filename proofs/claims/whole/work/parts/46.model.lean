/-! the model: one hate read -/
theorem ba_on {n k c d : Nat} {b : Nat → Nat} (hb : ∀ j, j < n → b j < 256) (hc : 0 < c) (hc2 : c < 256) (hd : 0 < d) (hd2 : d < 200) : (nI 1 ≤ ba n b k - nI c ∧ ba n b k - nI c ≤ nI d) ↔ (k < n ∧ c + 1 ≤ b k ∧ b k ≤ c + d) := by
  have h := ba_in (n := n) (k := k) (c := c) (d := d + 1) hb hc hc2 (by omega)
  constructor
  · intro z
    have z0 : (0 : Int32) ≤ ba n b k - nI c := Int32.le_trans (by decide) z.1
    have q := h.mp ⟨z0, (le_nI (by omega)).mp z.2⟩
    refine ⟨q.1, ?_, by omega⟩
    have e : ba n b k = nI (b k) := if_pos q.1
    have q3 := hb k q.1
    rw [e, pk_sub q.2.1] at z
    have := (nI_leI (by decide) (by omega)).mp z.1
    omega
  · intro z
    have e : ba n b k = nI (b k) := if_pos z.1
    have q3 := hb k z.1
    rw [e, pk_sub (by omega)]
    exact ⟨(nI_leI (by decide) (by omega)).mpr (by omega), (nI_leI (by omega) (by omega)).mpr (by omega)⟩
def rh0 (n : Nat) (b : Nat → Nat) (a : Nat) : Prop := a < n ∧ 48 ≤ b a ∧ b a ≤ 55
def rh1 (n : Nat) (b : Nat → Nat) (a : Nat) : Prop := a + 1 < n ∧ (48 ≤ b (a + 1) ∧ b (a + 1) ≤ 55) ∧ ¬ b (a + 1) = b a
def rh2 (n : Nat) (b : Nat → Nat) (a : Nat) : Prop := a + 2 < n ∧ 49 ≤ b (a + 2) ∧ b (a + 2) ≤ 57
set_option maxHeartbeats 2000000 in
theorem m_readsHate (S : ST) (n : Nat) (b : Nat → Nat) (hX : XM 0 n b S) (hn : n ≤ 47) (m a : Nat) (hm : m < 12) (ha : a < 100) : EX me_R_readsHate 2 [.ref 48, .int (nI m), .int (nI a)] S (fun r u => (r = some (.int (nI 0)) ∧ ¬ rh0 n b a ∧ u = S) ∨ (r = some (.int (nI 1)) ∧ rh0 n b a ∧ ¬ rh1 n b a ∧ u = S) ∨ (r = some (.int (nI 2)) ∧ rh0 n b a ∧ rh1 n b a ∧ ¬ rh2 n b a ∧ u = S) ∨ (r = some (.int (nI 3)) ∧ rh0 n b a ∧ rh1 n b a ∧ rh2 n b a ∧ u = pt (pt (pt S 51 (3 * m) (nI (b a - 48))) 51 (3 * m + 1) (nI (b (a + 1) - 48))) 51 (3 * m + 2) (nI (b (a + 2) - 48)))) := by
  refine EX.of mok_R_readsHate (Nat.le_of_ble_eq_true rfl) ?_
  obtain ⟨x1, x2, x3⟩ := id hX
  refine run_ok 3 (c' := (3, [(0, .ref 48), (1, .int (nI m)), (2, .int (nI a))], [.int (nI a), .int (nI 0), .ref 48], S)) rfl ?_
  refine x_callV [.int (nI 0), .int (nI a)] rfl cv_R_byteAt.1 lk_7_126 cv_R_byteAt.2.1 cv_R_byteAt.2.2.1 rfl cv_R_byteAt.2.2.2.1 rfl rfl (Nat.le_of_ble_eq_true rfl) (by decide) cv_R_byteAt.2.2.2.2 (m_byteAt0 S n b hX hn (a) (by omega)) ?_
  rintro r u ⟨hr, hu⟩
  rw [hr, hu]
  clear hr hu r u
  refine run_ok 8 (c' := (15, [(0, .ref 48), (1, .int (nI m)), (2, .int (nI a)), (3, .int ((ba n b a) - (nI 48)))], [.int ((nI a) + (nI 1)), .int (nI 0), .ref 48], S)) rfl ?_
  refine x_top (v' := nI (a + 1)) (nI_add _ _) ?_
  refine x_callV [.int (nI 0), .int (nI (a + 1))] rfl cv_R_byteAt.1 lk_7_126 cv_R_byteAt.2.1 cv_R_byteAt.2.2.1 rfl cv_R_byteAt.2.2.2.1 rfl rfl (Nat.le_of_ble_eq_true rfl) (by decide) cv_R_byteAt.2.2.2.2 (m_byteAt0 S n b hX hn (a + 1) (by omega)) ?_
  rintro r u ⟨hr, hu⟩
  rw [hr, hu]
  clear hr hu r u
  refine run_ok 8 (c' := (28, [(0, .ref 48), (1, .int (nI m)), (2, .int (nI a)), (3, .int ((ba n b a) - (nI 48))), (4, .int ((ba n b (a + 1)) - (nI 48)))], [.int ((nI a) + (nI 2)), .int (nI 0), .ref 48], S)) rfl ?_
  refine x_top (v' := nI (a + 2)) (nI_add _ _) ?_
  refine x_callV [.int (nI 0), .int (nI (a + 2))] rfl cv_R_byteAt.1 lk_7_126 cv_R_byteAt.2.1 cv_R_byteAt.2.2.1 rfl cv_R_byteAt.2.2.2.1 rfl rfl (Nat.le_of_ble_eq_true rfl) (by decide) cv_R_byteAt.2.2.2.2 (m_byteAt0 S n b hX hn (a + 2) (by omega)) ?_
  rintro r u ⟨hr, hu⟩
  rw [hr, hu]
  clear hr hu r u
  refine run_ok 5 (c' := (39, [(0, .ref 48), (1, .int (nI m)), (2, .int (nI a)), (3, .int ((ba n b a) - (nI 48))), (4, .int ((ba n b (a + 1)) - (nI 48))), (5, .int ((ba n b (a + 2)) - (nI 48)))], [.int (nI 12), .int (nI m)], S)) rfl ?_
  refine x_icmpN_eq 49 rfl rfl (by omega) (by omega) (fun hn => absurd hn (show ¬ m = 12 by omega)) (fun h39 => ?_)
  refine run_ok 1 (c' := (43, [(0, .ref 48), (1, .int (nI m)), (2, .int (nI a)), (3, .int ((ba n b a) - (nI 48))), (4, .int ((ba n b (a + 1)) - (nI 48))), (5, .int ((ba n b (a + 2)) - (nI 48)))], [.int ((ba n b a) - (nI 48))], S)) rfl ?_
  refine x_callS [.int ((ba n b a) - (nI 48))] rfl cs_R_isEight.1 lk_7_119 cs_R_isEight.2.1 rfl rfl (Nat.le_of_ble_eq_true rfl) (by decide) cs_R_isEight.2.2 (m_isEight S ((ba n b a) - (nI 48))) ?_
  rintro r u ⟨hr, hu⟩
  rw [hr, hu]
  clear hr hu r u
  refine x_ifB_ne 51 rfl rfl (fun h46 => ?_) (fun h46 => ?_)
  · have r0 := (ba_in (n := n) (k := a) (c := 48) (d := 8) x3 (by decide) (by decide) (by decide)).mp h46
    have o0 : rh0 n b a := ⟨r0.1, r0.2.1, by omega⟩
    have e0 : ba n b a - nI 48 = nI (b a - 48) := by rw [show ba n b a = nI (b a) from if_pos r0.1]; exact pk_sub r0.2.1
    have y0 := x3 a r0.1
    refine run_ok 1 (c' := (53, [(0, .ref 48), (1, .int (nI m)), (2, .int (nI a)), (3, .int ((ba n b a) - (nI 48))), (4, .int ((ba n b (a + 1)) - (nI 48))), (5, .int ((ba n b (a + 2)) - (nI 48)))], [.int ((ba n b (a + 1)) - (nI 48))], S)) rfl ?_
    refine x_callS [.int ((ba n b (a + 1)) - (nI 48))] rfl cs_R_isEight.1 lk_7_119 cs_R_isEight.2.1 rfl rfl (Nat.le_of_ble_eq_true rfl) (by decide) cs_R_isEight.2.2 (m_isEight S ((ba n b (a + 1)) - (nI 48))) ?_
    rintro r u ⟨hr, hu⟩
    rw [hr, hu]
    clear hr hu r u
    refine x_ifB_eq 65 rfl rfl (fun h56 => ?_) (fun h56 => ?_)
    · refine run_ok 1 (c' := (66, [(0, .ref 48), (1, .int (nI m)), (2, .int (nI a)), (3, .int ((ba n b a) - (nI 48))), (4, .int ((ba n b (a + 1)) - (nI 48))), (5, .int ((ba n b (a + 2)) - (nI 48)))], [.int (nI 1)], S)) rfl ?_
      exact x_ret (r := some (.int (nI 1))) rfl rfl trivial (Or.inr (Or.inl ⟨rfl, o0, fun z => by first | exact h56 ((ba_in (n := n) (k := a + 1) (c := 48) (d := 8) x3 (by decide) (by decide) (by decide)).mpr ⟨z.1, z.2.1.1, by have := z.2.1.2; omega⟩) | exact z.2.2 (by have := (nI_eqI (by omega) (by omega)).mp (e1.symm.trans (h62.trans e0)); omega), rfl⟩)) rfl
    · have r1 := (ba_in (n := n) (k := a + 1) (c := 48) (d := 8) x3 (by decide) (by decide) (by decide)).mp h56
      have e1 : ba n b (a + 1) - nI 48 = nI (b (a + 1) - 48) := by rw [show ba n b (a + 1) = nI (b (a + 1)) from if_pos r1.1]; exact pk_sub r1.2.1
      have y1 := x3 (a + 1) r1.1
      refine run_ok 2 (c' := (62, [(0, .ref 48), (1, .int (nI m)), (2, .int (nI a)), (3, .int ((ba n b a) - (nI 48))), (4, .int ((ba n b (a + 1)) - (nI 48))), (5, .int ((ba n b (a + 2)) - (nI 48)))], [.int ((ba n b a) - (nI 48)), .int ((ba n b (a + 1)) - (nI 48))], S)) rfl ?_
      refine x_icmp_ne 67 rfl rfl (fun h62 => ?_) (fun h62 => ?_)
      · have o1 : rh1 n b a := ⟨r1.1, ⟨r1.2.1, by omega⟩, fun z => h62 (by rw [e0, e1, z])⟩
        refine run_ok 3 (c' := (72, [(0, .ref 48), (1, .int (nI m)), (2, .int (nI a)), (3, .int ((ba n b a) - (nI 48))), (4, .int ((ba n b (a + 1)) - (nI 48))), (5, .int ((ba n b (a + 2)) - (nI 48)))], [.int (nI 9), .int (nI 1), .int ((ba n b (a + 2)) - (nI 48))], S)) rfl ?_
        refine x_callS [.int ((ba n b (a + 2)) - (nI 48)), .int (nI 1), .int (nI 9)] rfl cs_R_in.1 lk_7_115 cs_R_in.2.1 rfl rfl (Nat.le_of_ble_eq_true rfl) (by decide) cs_R_in.2.2 (m_in S ((ba n b (a + 2)) - (nI 48)) (nI 1) (nI 9)) ?_
        rintro r u ⟨hr, hu⟩
        rw [hr, hu]
        clear hr hu r u
        refine x_ifB_ne 80 rfl rfl (fun h75 => ?_) (fun h75 => ?_)
        · have r2 := (ba_on (n := n) (k := a + 2) (c := 48) (d := 9) x3 (by decide) (by decide) (by decide) (by decide)).mp h75
          have o2 : rh2 n b a := ⟨r2.1, by omega, by omega⟩
          have e2 : ba n b (a + 2) - nI 48 = nI (b (a + 2) - 48) := by rw [show ba n b (a + 2) = nI (b (a + 2)) from if_pos r2.1]; exact pk_sub (by omega)
          rw [e0, e1, e2]
          refine run_ok 5 (c' := (87, [(0, .ref 48), (1, .int (nI m)), (2, .int (nI a)), (3, .int (nI (b a - 48))), (4, .int (nI (b (a + 1) - 48))), (5, .int (nI (b (a + 2) - 48)))], [.int ((nI 3) * (nI m)), .ref 51], S)) rfl ?_
          refine x_top (v' := nI (3 * m)) (pk_mul _ _) ?_
          refine run_ok 1 (c' := (88, [(0, .ref 48), (1, .int (nI m)), (2, .int (nI a)), (3, .int (nI (b a - 48))), (4, .int (nI (b (a + 1) - 48))), (5, .int (nI (b (a + 2) - 48)))], [.int (nI (b a - 48)), .int (nI (3 * m)), .ref 51], S)) rfl ?_
          refine x_isN rfl rfl (by decide) (by omega) ?_
          refine run_ok 5 (c' := (96, [(0, .ref 48), (1, .int (nI m)), (2, .int (nI a)), (3, .int (nI (b a - 48))), (4, .int (nI (b (a + 1) - 48))), (5, .int (nI (b (a + 2) - 48)))], [.int ((nI 3) * (nI m)), .ref 51], (pt S 51 (3 * m) (nI (b a - 48))))) rfl ?_
          refine x_top (v' := nI (3 * m)) (pk_mul _ _) ?_
          refine run_ok 2 (c' := (98, [(0, .ref 48), (1, .int (nI m)), (2, .int (nI a)), (3, .int (nI (b a - 48))), (4, .int (nI (b (a + 1) - 48))), (5, .int (nI (b (a + 2) - 48)))], [.int ((nI (3 * m)) + (nI 1)), .ref 51], (pt S 51 (3 * m) (nI (b a - 48))))) rfl ?_
          refine x_top (v' := nI ((3 * m) + 1)) (nI_add _ _) ?_
          refine run_ok 1 (c' := (100, [(0, .ref 48), (1, .int (nI m)), (2, .int (nI a)), (3, .int (nI (b a - 48))), (4, .int (nI (b (a + 1) - 48))), (5, .int (nI (b (a + 2) - 48)))], [.int (nI (b (a + 1) - 48)), .int (nI ((3 * m) + 1)), .ref 51], (pt S 51 (3 * m) (nI (b a - 48))))) rfl ?_
          refine x_isN rfl rfl (by decide) (by omega) ?_
          refine run_ok 5 (c' := (108, [(0, .ref 48), (1, .int (nI m)), (2, .int (nI a)), (3, .int (nI (b a - 48))), (4, .int (nI (b (a + 1) - 48))), (5, .int (nI (b (a + 2) - 48)))], [.int ((nI 3) * (nI m)), .ref 51], (pt (pt S 51 (3 * m) (nI (b a - 48))) 51 ((3 * m) + 1) (nI (b (a + 1) - 48))))) rfl ?_
          refine x_top (v' := nI (3 * m)) (pk_mul _ _) ?_
          refine run_ok 2 (c' := (110, [(0, .ref 48), (1, .int (nI m)), (2, .int (nI a)), (3, .int (nI (b a - 48))), (4, .int (nI (b (a + 1) - 48))), (5, .int (nI (b (a + 2) - 48)))], [.int ((nI (3 * m)) + (nI 2)), .ref 51], (pt (pt S 51 (3 * m) (nI (b a - 48))) 51 ((3 * m) + 1) (nI (b (a + 1) - 48))))) rfl ?_
          refine x_top (v' := nI ((3 * m) + 2)) (nI_add _ _) ?_
          refine run_ok 1 (c' := (112, [(0, .ref 48), (1, .int (nI m)), (2, .int (nI a)), (3, .int (nI (b a - 48))), (4, .int (nI (b (a + 1) - 48))), (5, .int (nI (b (a + 2) - 48)))], [.int (nI (b (a + 2) - 48)), .int (nI ((3 * m) + 2)), .ref 51], (pt (pt S 51 (3 * m) (nI (b a - 48))) 51 ((3 * m) + 1) (nI (b (a + 1) - 48))))) rfl ?_
          refine x_isN rfl rfl (by decide) (by omega) ?_
          refine run_ok 1 (c' := (114, [(0, .ref 48), (1, .int (nI m)), (2, .int (nI a)), (3, .int (nI (b a - 48))), (4, .int (nI (b (a + 1) - 48))), (5, .int (nI (b (a + 2) - 48)))], [.int (nI 3)], (pt (pt (pt S 51 (3 * m) (nI (b a - 48))) 51 ((3 * m) + 1) (nI (b (a + 1) - 48))) 51 ((3 * m) + 2) (nI (b (a + 2) - 48))))) rfl ?_
          exact x_ret (r := some (.int (nI 3))) rfl rfl trivial (Or.inr (Or.inr (Or.inr ⟨rfl, o0, o1, o2, rfl⟩))) rfl
        · refine run_ok 1 (c' := (79, [(0, .ref 48), (1, .int (nI m)), (2, .int (nI a)), (3, .int ((ba n b a) - (nI 48))), (4, .int ((ba n b (a + 1)) - (nI 48))), (5, .int ((ba n b (a + 2)) - (nI 48)))], [.int (nI 2)], S)) rfl ?_
          exact x_ret (r := some (.int (nI 2))) rfl rfl trivial (Or.inr (Or.inr (Or.inl ⟨rfl, o0, o1, fun z => h75 ((ba_on (n := n) (k := a + 2) (c := 48) (d := 9) x3 (by decide) (by decide) (by decide) (by decide)).mpr ⟨z.1, by have := z.2.1; omega, by have := z.2.2; omega⟩), rfl⟩))) rfl
      · refine run_ok 1 (c' := (66, [(0, .ref 48), (1, .int (nI m)), (2, .int (nI a)), (3, .int ((ba n b a) - (nI 48))), (4, .int ((ba n b (a + 1)) - (nI 48))), (5, .int ((ba n b (a + 2)) - (nI 48)))], [.int (nI 1)], S)) rfl ?_
        exact x_ret (r := some (.int (nI 1))) rfl rfl trivial (Or.inr (Or.inl ⟨rfl, o0, fun z => by first | exact h56 ((ba_in (n := n) (k := a + 1) (c := 48) (d := 8) x3 (by decide) (by decide) (by decide)).mpr ⟨z.1, z.2.1.1, by have := z.2.1.2; omega⟩) | exact z.2.2 (by have := (nI_eqI (by omega) (by omega)).mp (e1.symm.trans (h62.trans e0)); omega), rfl⟩)) rfl
  · refine run_ok 1 (c' := (50, [(0, .ref 48), (1, .int (nI m)), (2, .int (nI a)), (3, .int ((ba n b a) - (nI 48))), (4, .int ((ba n b (a + 1)) - (nI 48))), (5, .int ((ba n b (a + 2)) - (nI 48)))], [.int (nI 0)], S)) rfl ?_
    exact x_ret (r := some (.int (nI 0))) rfl rfl trivial (Or.inl ⟨rfl, fun z => h46 ((ba_in (n := n) (k := a) (c := 48) (d := 8) x3 (by decide) (by decide) (by decide)).mpr ⟨z.1, z.2.1, by have := z.2.2; omega⟩), rfl⟩) rfl


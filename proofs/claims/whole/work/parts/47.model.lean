/-! the model: one boat read -/
def sofI (x : Int32) : Int32 := if x = nI 108 then nI 0 else if x = nI 115 then nI 1 else if x = nI 116 then nI 2 else (-1)
theorem sofI_ba {n k : Nat} {b : Nat → Nat} (hb : ∀ j, j < n → b j < 256) : sofI (ba n b k) = if k < n then spv (sof (b k)) else (-1) := by
  unfold ba
  by_cases h : k < n
  · have q := hb k h
    rw [if_pos h, if_pos h]
    unfold sofI sof
    by_cases h1 : b k = 108
    · rw [if_pos (by rw [h1]), if_pos h1]; rfl
    · rw [if_neg (fun z => h1 ((nI_eqI (by omega) (by decide)).mp z)), if_neg h1]
      by_cases h2 : b k = 115
      · rw [if_pos (by rw [h2]), if_pos h2]; rfl
      · rw [if_neg (fun z => h2 ((nI_eqI (by omega) (by decide)).mp z)), if_neg h2]
        by_cases h3 : b k = 116
        · rw [if_pos (by rw [h3]), if_pos h3]; rfl
        · rw [if_neg (fun z => h3 ((nI_eqI (by omega) (by decide)).mp z)), if_neg h3]; rfl
  · rw [if_neg h, if_neg h]
    decide
def rb0 (n : Nat) (b : Nat → Nat) (a : Nat) : Prop := a < n ∧ ∃ s, sof (b a) = some s
def rb1 (n : Nat) (b : Nat → Nat) (a : Nat) : Prop := a + 1 < n ∧ 48 ≤ b (a + 1) ∧ b (a + 1) ≤ 55
def rb2 (n : Nat) (b : Nat → Nat) (a : Nat) : Prop := a + 2 < n ∧ 97 ≤ b (a + 2) ∧ b (a + 2) ≤ 120
def rb3 (n : Nat) (b : Nat → Nat) (a : Nat) : Prop := a + 3 < n ∧ 49 ≤ b (a + 3) ∧ b (a + 3) ≤ 57
theorem sofI_n1 {n k : Nat} {b : Nat → Nat} (hb : ∀ j, j < n → b j < 256) : sofI (ba n b k) = (-1) ↔ ¬ (k < n ∧ ∃ s, sof (b k) = some s) := by
  rw [sofI_ba hb]
  by_cases h : k < n
  · rw [if_pos h, spv_n1 (fun m hm => by have := sof_lt hm; omega)]
    constructor
    · intro z y
      obtain ⟨s, hs⟩ := y.2
      rw [z] at hs
      cases hs
    · intro z
      cases hs : sof (b k) with
      | none => rfl
      | some s => exact absurd ⟨h, s, hs⟩ z
  · rw [if_neg h]
    exact ⟨fun _ z => h z.1, fun _ => rfl⟩
set_option maxHeartbeats 2000000 in
theorem m_readsBoat (S : ST) (n : Nat) (b : Nat → Nat) (hX : XM 1 n b S) (hn : n ≤ 39) (m a : Nat) (hm : m < 8) (ha : a < 100) : EX me_R_readsBoat 2 [.ref 48, .int (nI m), .int (nI a)] S (fun r u => (r = some (.int (nI 0)) ∧ ¬ rb0 n b a ∧ u = S) ∨ (r = some (.int (nI 1)) ∧ rb0 n b a ∧ ¬ rb1 n b a ∧ u = S) ∨ (r = some (.int (nI 2)) ∧ rb0 n b a ∧ rb1 n b a ∧ ¬ rb2 n b a ∧ u = S) ∨ (r = some (.int (nI 3)) ∧ rb0 n b a ∧ rb1 n b a ∧ rb2 n b a ∧ ¬ rb3 n b a ∧ u = S) ∨ (r = some (.int (nI 4)) ∧ rb0 n b a ∧ rb1 n b a ∧ rb2 n b a ∧ rb3 n b a ∧ u = pt (pt (pt (pt S 53 m (spv (sof (b a)))) 54 m (nI (b (a + 1) - 48))) 55 m (nI (b (a + 2) - 97))) 56 m (nI (b (a + 3) - 48)))) := by
  refine EX.of mok_R_readsBoat (Nat.le_of_ble_eq_true rfl) ?_
  obtain ⟨x1, x2, x3⟩ := id hX
  have HJ : BX me_R_readsBoat 2 none (fun r u => (r = some (.int (nI 0)) ∧ ¬ rb0 n b a ∧ u = S) ∨ (r = some (.int (nI 1)) ∧ rb0 n b a ∧ ¬ rb1 n b a ∧ u = S) ∨ (r = some (.int (nI 2)) ∧ rb0 n b a ∧ rb1 n b a ∧ ¬ rb2 n b a ∧ u = S) ∨ (r = some (.int (nI 3)) ∧ rb0 n b a ∧ rb1 n b a ∧ rb2 n b a ∧ ¬ rb3 n b a ∧ u = S) ∨ (r = some (.int (nI 4)) ∧ rb0 n b a ∧ rb1 n b a ∧ rb2 n b a ∧ rb3 n b a ∧ u = pt (pt (pt (pt S 53 m (spv (sof (b a)))) 54 m (nI (b (a + 1) - 48))) 55 m (nI (b (a + 2) - 97))) 56 m (nI (b (a + 3) - 48)))) (38, [(0, .ref 48), (1, .int (nI m)), (2, .int (nI a)), (3, .int (ba n b a))], [.int (sofI (ba n b a))], S) := by
    refine run_ok 6 (c' := (45, [(0, .ref 48), (1, .int (nI m)), (2, .int (nI a)), (3, .int (ba n b a)), (4, .int (sofI (ba n b a)))], [.int ((nI a) + (nI 1)), .int (nI 1), .ref 48], S)) rfl ?_
    refine x_top (v' := nI (a + 1)) (nI_add _ _) ?_
    refine x_callV [.int (nI 1), .int (nI (a + 1))] rfl cv_R_byteAt.1 lk_7_126 cv_R_byteAt.2.1 cv_R_byteAt.2.2.1 rfl cv_R_byteAt.2.2.2.1 rfl rfl (Nat.le_of_ble_eq_true rfl) (by decide) cv_R_byteAt.2.2.2.2 (m_byteAt1 S n b hX hn (a + 1) (by omega)) ?_
    rintro r u ⟨hr, hu⟩
    rw [hr, hu]
    clear hr hu r u
    refine run_ok 8 (c' := (58, [(0, .ref 48), (1, .int (nI m)), (2, .int (nI a)), (3, .int (ba n b a)), (4, .int (sofI (ba n b a))), (5, .int ((ba n b (a + 1)) - (nI 48)))], [.int ((nI a) + (nI 2)), .int (nI 1), .ref 48], S)) rfl ?_
    refine x_top (v' := nI (a + 2)) (nI_add _ _) ?_
    refine x_callV [.int (nI 1), .int (nI (a + 2))] rfl cv_R_byteAt.1 lk_7_126 cv_R_byteAt.2.1 cv_R_byteAt.2.2.1 rfl cv_R_byteAt.2.2.2.1 rfl rfl (Nat.le_of_ble_eq_true rfl) (by decide) cv_R_byteAt.2.2.2.2 (m_byteAt1 S n b hX hn (a + 2) (by omega)) ?_
    rintro r u ⟨hr, hu⟩
    rw [hr, hu]
    clear hr hu r u
    refine run_ok 8 (c' := (71, [(0, .ref 48), (1, .int (nI m)), (2, .int (nI a)), (3, .int (ba n b a)), (4, .int (sofI (ba n b a))), (5, .int ((ba n b (a + 1)) - (nI 48))), (6, .int ((ba n b (a + 2)) - (nI 97)))], [.int ((nI a) + (nI 3)), .int (nI 1), .ref 48], S)) rfl ?_
    refine x_top (v' := nI (a + 3)) (nI_add _ _) ?_
    refine x_callV [.int (nI 1), .int (nI (a + 3))] rfl cv_R_byteAt.1 lk_7_126 cv_R_byteAt.2.1 cv_R_byteAt.2.2.1 rfl cv_R_byteAt.2.2.2.1 rfl rfl (Nat.le_of_ble_eq_true rfl) (by decide) cv_R_byteAt.2.2.2.2 (m_byteAt1 S n b hX hn (a + 3) (by omega)) ?_
    rintro r u ⟨hr, hu⟩
    rw [hr, hu]
    clear hr hu r u
    refine run_ok 5 (c' := (82, [(0, .ref 48), (1, .int (nI m)), (2, .int (nI a)), (3, .int (ba n b a)), (4, .int (sofI (ba n b a))), (5, .int ((ba n b (a + 1)) - (nI 48))), (6, .int ((ba n b (a + 2)) - (nI 97))), (7, .int ((ba n b (a + 3)) - (nI 48)))], [.int (nI 8), .int (nI m)], S)) rfl ?_
    refine x_icmpN_eq 91 rfl rfl (by omega) (by omega) (fun hn => absurd hn (show ¬ m = 8 by omega)) (fun h82 => ?_)
    refine run_ok 2 (c' := (88, [(0, .ref 48), (1, .int (nI m)), (2, .int (nI a)), (3, .int (ba n b a)), (4, .int (sofI (ba n b a))), (5, .int ((ba n b (a + 1)) - (nI 48))), (6, .int ((ba n b (a + 2)) - (nI 97))), (7, .int ((ba n b (a + 3)) - (nI 48)))], [.int (-1), .int (sofI (ba n b a))], S)) rfl ?_
    refine x_icmp_ne 93 rfl rfl (fun h88 => ?_) (fun h88 => ?_)
    · have o0 : rb0 n b a := Classical.not_not.mp (fun z => h88 ((sofI_n1 x3).mpr z))
      refine run_ok 1 (c' := (95, [(0, .ref 48), (1, .int (nI m)), (2, .int (nI a)), (3, .int (ba n b a)), (4, .int (sofI (ba n b a))), (5, .int ((ba n b (a + 1)) - (nI 48))), (6, .int ((ba n b (a + 2)) - (nI 97))), (7, .int ((ba n b (a + 3)) - (nI 48)))], [.int ((ba n b (a + 1)) - (nI 48))], S)) rfl ?_
      refine x_callS [.int ((ba n b (a + 1)) - (nI 48))] rfl cs_R_isEight.1 lk_7_119 cs_R_isEight.2.1 rfl rfl (Nat.le_of_ble_eq_true rfl) (by decide) cs_R_isEight.2.2 (m_isEight S ((ba n b (a + 1)) - (nI 48))) ?_
      rintro r u ⟨hr, hu⟩
      rw [hr, hu]
      clear hr hu r u
      refine x_ifB_ne 103 rfl rfl (fun h98 => ?_) (fun h98 => ?_)
      · have r1 := (ba_in (n := n) (k := a + 1) (c := 48) (d := 8) x3 (by decide) (by decide) (by decide)).mp h98
        have o1 : rb1 n b a := ⟨r1.1, r1.2.1, by omega⟩
        refine run_ok 1 (c' := (105, [(0, .ref 48), (1, .int (nI m)), (2, .int (nI a)), (3, .int (ba n b a)), (4, .int (sofI (ba n b a))), (5, .int ((ba n b (a + 1)) - (nI 48))), (6, .int ((ba n b (a + 2)) - (nI 97))), (7, .int ((ba n b (a + 3)) - (nI 48)))], [.int ((ba n b (a + 2)) - (nI 97))], S)) rfl ?_
        refine x_callS [.int ((ba n b (a + 2)) - (nI 97))] rfl cs_R_isWeek.1 lk_7_130 cs_R_isWeek.2.1 rfl rfl (Nat.le_of_ble_eq_true rfl) (by decide) cs_R_isWeek.2.2 (m_isWeek S ((ba n b (a + 2)) - (nI 97))) ?_
        rintro r u ⟨hr, hu⟩
        rw [hr, hu]
        clear hr hu r u
        refine x_ifB_ne 113 rfl rfl (fun h108 => ?_) (fun h108 => ?_)
        · have r2 := (ba_in (n := n) (k := a + 2) (c := 97) (d := 24) x3 (by decide) (by decide) (by decide)).mp h108
          have o2 : rb2 n b a := ⟨r2.1, r2.2.1, by omega⟩
          refine run_ok 3 (c' := (118, [(0, .ref 48), (1, .int (nI m)), (2, .int (nI a)), (3, .int (ba n b a)), (4, .int (sofI (ba n b a))), (5, .int ((ba n b (a + 1)) - (nI 48))), (6, .int ((ba n b (a + 2)) - (nI 97))), (7, .int ((ba n b (a + 3)) - (nI 48)))], [.int (nI 9), .int (nI 1), .int ((ba n b (a + 3)) - (nI 48))], S)) rfl ?_
          refine x_callS [.int ((ba n b (a + 3)) - (nI 48)), .int (nI 1), .int (nI 9)] rfl cs_R_in.1 lk_7_115 cs_R_in.2.1 rfl rfl (Nat.le_of_ble_eq_true rfl) (by decide) cs_R_in.2.2 (m_in S ((ba n b (a + 3)) - (nI 48)) (nI 1) (nI 9)) ?_
          rintro r u ⟨hr, hu⟩
          rw [hr, hu]
          clear hr hu r u
          refine x_ifB_ne 126 rfl rfl (fun h121 => ?_) (fun h121 => ?_)
          · have r3 := (ba_on (n := n) (k := a + 3) (c := 48) (d := 9) x3 (by decide) (by decide) (by decide) (by decide)).mp h121
            have o3 : rb3 n b a := ⟨r3.1, by omega, by omega⟩
            rw [show sofI (ba n b a) = spv (sof (b a)) by rw [sofI_ba x3, if_pos o0.1], show ba n b (a + 1) - nI 48 = nI (b (a + 1) - 48) by rw [show ba n b (a + 1) = nI (b (a + 1)) from if_pos r1.1]; exact pk_sub (by omega), show ba n b (a + 2) - nI 97 = nI (b (a + 2) - 97) by rw [show ba n b (a + 2) = nI (b (a + 2)) from if_pos r2.1]; exact pk_sub (by omega), show ba n b (a + 3) - nI 48 = nI (b (a + 3) - 48) by rw [show ba n b (a + 3) = nI (b (a + 3)) from if_pos r3.1]; exact pk_sub (by omega)]
            refine run_ok 4 (c' := (133, [(0, .ref 48), (1, .int (nI m)), (2, .int (nI a)), (3, .int (ba n b a)), (4, .int (spv (sof (b a)))), (5, .int (nI (b (a + 1) - 48))), (6, .int (nI (b (a + 2) - 97))), (7, .int (nI (b (a + 3) - 48)))], [.int (spv (sof (b a))), .int (nI m), .ref 53], S)) rfl ?_
            refine x_isN rfl rfl (by decide) (by omega) ?_
            refine run_ok 4 (c' := (141, [(0, .ref 48), (1, .int (nI m)), (2, .int (nI a)), (3, .int (ba n b a)), (4, .int (spv (sof (b a)))), (5, .int (nI (b (a + 1) - 48))), (6, .int (nI (b (a + 2) - 97))), (7, .int (nI (b (a + 3) - 48)))], [.int (nI (b (a + 1) - 48)), .int (nI m), .ref 54], (pt S 53 m (spv (sof (b a)))))) rfl ?_
            refine x_isN rfl rfl (by decide) (by omega) ?_
            refine run_ok 4 (c' := (149, [(0, .ref 48), (1, .int (nI m)), (2, .int (nI a)), (3, .int (ba n b a)), (4, .int (spv (sof (b a)))), (5, .int (nI (b (a + 1) - 48))), (6, .int (nI (b (a + 2) - 97))), (7, .int (nI (b (a + 3) - 48)))], [.int (nI (b (a + 2) - 97)), .int (nI m), .ref 55], (pt (pt S 53 m (spv (sof (b a)))) 54 m (nI (b (a + 1) - 48))))) rfl ?_
            refine x_isN rfl rfl (by decide) (by omega) ?_
            refine run_ok 4 (c' := (157, [(0, .ref 48), (1, .int (nI m)), (2, .int (nI a)), (3, .int (ba n b a)), (4, .int (spv (sof (b a)))), (5, .int (nI (b (a + 1) - 48))), (6, .int (nI (b (a + 2) - 97))), (7, .int (nI (b (a + 3) - 48)))], [.int (nI (b (a + 3) - 48)), .int (nI m), .ref 56], (pt (pt (pt S 53 m (spv (sof (b a)))) 54 m (nI (b (a + 1) - 48))) 55 m (nI (b (a + 2) - 97))))) rfl ?_
            refine x_isN rfl rfl (by decide) (by omega) ?_
            refine run_ok 1 (c' := (159, [(0, .ref 48), (1, .int (nI m)), (2, .int (nI a)), (3, .int (ba n b a)), (4, .int (spv (sof (b a)))), (5, .int (nI (b (a + 1) - 48))), (6, .int (nI (b (a + 2) - 97))), (7, .int (nI (b (a + 3) - 48)))], [.int (nI 4)], (pt (pt (pt (pt S 53 m (spv (sof (b a)))) 54 m (nI (b (a + 1) - 48))) 55 m (nI (b (a + 2) - 97))) 56 m (nI (b (a + 3) - 48))))) rfl ?_
            exact x_ret (r := some (.int (nI 4))) rfl rfl trivial (Or.inr (Or.inr (Or.inr (Or.inr ⟨rfl, o0, o1, o2, o3, rfl⟩)))) rfl
          · refine run_ok 1 (c' := (125, [(0, .ref 48), (1, .int (nI m)), (2, .int (nI a)), (3, .int (ba n b a)), (4, .int (sofI (ba n b a))), (5, .int ((ba n b (a + 1)) - (nI 48))), (6, .int ((ba n b (a + 2)) - (nI 97))), (7, .int ((ba n b (a + 3)) - (nI 48)))], [.int (nI 3)], S)) rfl ?_
            exact x_ret (r := some (.int (nI 3))) rfl rfl trivial (Or.inr (Or.inr (Or.inr (Or.inl ⟨rfl, o0, o1, o2, fun z => h121 ((ba_on (n := n) (k := a + 3) (c := 48) (d := 9) x3 (by decide) (by decide) (by decide) (by decide)).mpr ⟨z.1, by have := z.2.1; omega, by have := z.2.2; omega⟩), rfl⟩)))) rfl
        · refine run_ok 1 (c' := (112, [(0, .ref 48), (1, .int (nI m)), (2, .int (nI a)), (3, .int (ba n b a)), (4, .int (sofI (ba n b a))), (5, .int ((ba n b (a + 1)) - (nI 48))), (6, .int ((ba n b (a + 2)) - (nI 97))), (7, .int ((ba n b (a + 3)) - (nI 48)))], [.int (nI 2)], S)) rfl ?_
          exact x_ret (r := some (.int (nI 2))) rfl rfl trivial (Or.inr (Or.inr (Or.inl ⟨rfl, o0, o1, fun z => h108 ((ba_in (n := n) (k := a + 2) (c := 97) (d := 24) x3 (by decide) (by decide) (by decide)).mpr ⟨z.1, z.2.1, by have := z.2.2; omega⟩), rfl⟩))) rfl
      · refine run_ok 1 (c' := (102, [(0, .ref 48), (1, .int (nI m)), (2, .int (nI a)), (3, .int (ba n b a)), (4, .int (sofI (ba n b a))), (5, .int ((ba n b (a + 1)) - (nI 48))), (6, .int ((ba n b (a + 2)) - (nI 97))), (7, .int ((ba n b (a + 3)) - (nI 48)))], [.int (nI 1)], S)) rfl ?_
        exact x_ret (r := some (.int (nI 1))) rfl rfl trivial (Or.inr (Or.inl ⟨rfl, o0, fun z => h98 ((ba_in (n := n) (k := a + 1) (c := 48) (d := 8) x3 (by decide) (by decide) (by decide)).mpr ⟨z.1, z.2.1, by have := z.2.2; omega⟩), rfl⟩)) rfl
    · refine run_ok 1 (c' := (92, [(0, .ref 48), (1, .int (nI m)), (2, .int (nI a)), (3, .int (ba n b a)), (4, .int (sofI (ba n b a))), (5, .int ((ba n b (a + 1)) - (nI 48))), (6, .int ((ba n b (a + 2)) - (nI 97))), (7, .int ((ba n b (a + 3)) - (nI 48)))], [.int (nI 0)], S)) rfl ?_
      exact x_ret (r := some (.int (nI 0))) rfl rfl trivial (Or.inl ⟨rfl, (sofI_n1 x3).mp h88, rfl⟩) rfl
  refine run_ok 3 (c' := (3, [(0, .ref 48), (1, .int (nI m)), (2, .int (nI a))], [.int (nI a), .int (nI 1), .ref 48], S)) rfl ?_
  refine x_callV [.int (nI 1), .int (nI a)] rfl cv_R_byteAt.1 lk_7_126 cv_R_byteAt.2.1 cv_R_byteAt.2.2.1 rfl cv_R_byteAt.2.2.2.1 rfl rfl (Nat.le_of_ble_eq_true rfl) (by decide) cv_R_byteAt.2.2.2.2 (m_byteAt1 S n b hX hn (a) (by omega)) ?_
  rintro r u ⟨hr, hu⟩
  rw [hr, hu]
  clear hr hu r u
  refine run_ok 3 (c' := (10, [(0, .ref 48), (1, .int (nI m)), (2, .int (nI a)), (3, .int (ba n b a))], [.int (nI 108), .int (ba n b a)], S)) rfl ?_
  refine x_icmp_ne 17 rfl rfl (fun h10 => ?_) (fun h10 => ?_)
  · refine run_ok 2 (c' := (20, [(0, .ref 48), (1, .int (nI m)), (2, .int (nI a)), (3, .int (ba n b a))], [.int (nI 115), .int (ba n b a)], S)) rfl ?_
    refine x_icmp_ne 27 rfl rfl (fun h20 => ?_) (fun h20 => ?_)
    · refine run_ok 2 (c' := (30, [(0, .ref 48), (1, .int (nI m)), (2, .int (nI a)), (3, .int (ba n b a))], [.int (nI 116), .int (ba n b a)], S)) rfl ?_
      refine x_icmp_ne 37 rfl rfl (fun h30 => ?_) (fun h30 => ?_)
      · refine run_ok 1 (c' := (38, [(0, .ref 48), (1, .int (nI m)), (2, .int (nI a)), (3, .int (ba n b a))], [.int (-1)], S)) rfl ?_
        refine x_top (v' := sofI (ba n b a)) (show _ = sofI (ba n b a) from ((if_neg h10).trans ((if_neg h20).trans (if_neg h30))).symm) ?_
        exact HJ
      · refine run_ok 2 (c' := (38, [(0, .ref 48), (1, .int (nI m)), (2, .int (nI a)), (3, .int (ba n b a))], [.int (nI 2)], S)) rfl ?_
        refine x_top (v' := sofI (ba n b a)) (show _ = sofI (ba n b a) from ((if_neg h10).trans ((if_neg h20).trans (if_pos h30))).symm) ?_
        exact HJ
    · refine run_ok 2 (c' := (38, [(0, .ref 48), (1, .int (nI m)), (2, .int (nI a)), (3, .int (ba n b a))], [.int (nI 1)], S)) rfl ?_
      refine x_top (v' := sofI (ba n b a)) (show _ = sofI (ba n b a) from ((if_neg h10).trans (if_pos h20)).symm) ?_
      exact HJ
  · refine run_ok 2 (c' := (38, [(0, .ref 48), (1, .int (nI m)), (2, .int (nI a)), (3, .int (ba n b a))], [.int (nI 0)], S)) rfl ?_
    refine x_top (v' := sofI (ba n b a)) (show _ = sofI (ba n b a) from (if_pos h10).symm) ?_
    exact HJ


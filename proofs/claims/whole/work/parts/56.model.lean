/-! the model: texts, events, reading a sheet -/
theorem XM.put {t n : Nat} {b : Nat → Nat} {u : ST} {c : Nat} (h : XM t n b u) (hc : c < 256) : XM t (n + 1) (upn b n c) (pt (pt u 50 (47 * t + n) (nI c)) 49 t (nI (n + 1))) := by
  refine ⟨?_, fun j hj => ?_, fun j hj => ?_⟩
  · rw [pt_at]
    exact if_pos rfl
  · show upd (u.1 50) (47 * t + n) (nI c) (47 * t + j) = _
    unfold upd upn
    by_cases e : j = n
    · rw [e, if_pos rfl, if_pos rfl]
    · rw [if_neg (by omega), if_neg e]
      exact h.2.1 j (by omega)
  · unfold upn
    split
    · exact hc
    · exact h.2.2 j (by omega)
theorem XM.oth {t s n m : Nat} {d : Nat → Nat} {u : ST} {x y : Int32} (hts : s ≠ t) (hi : ∀ j, j < m → 47 * s + j ≠ 47 * t + n) (h : XM s m d u) : XM s m d (pt (pt u 50 (47 * t + n) x) 49 t y) := by
  refine ⟨?_, fun j hj => ?_, h.2.2⟩
  · rw [pt_at]
    exact (if_neg hts).trans h.1
  · show upd (u.1 50) (47 * t + n) x (47 * s + j) = _
    exact (if_neg (hi j hj)).trans (h.2.1 j hj)
theorem XM.len {t n m : Nat} {b : Nat → Nat} {u : ST} (h : XM t n b u) (hm : m ≤ n) : XM t m b (pt u 49 t (nI m)) := by
  refine ⟨?_, fun j hj => ?_, fun j hj => h.2.2 j (by omega)⟩
  · rw [pt_at]
    exact if_pos rfl
  · exact h.2.1 j (by omega)
theorem XM.olen {t s m : Nat} {d : Nat → Nat} {u : ST} {y : Int32} (hts : s ≠ t) (h : XM s m d u) : XM s m d (pt u 49 t y) := by
  refine ⟨?_, h.2.1, h.2.2⟩
  rw [pt_at]
  exact (if_neg hts).trans h.1
set_option maxHeartbeats 2000000 in
theorem m_type_ok0 (S : ST) (n : Nat) (b : Nat → Nat) (hX : XM 0 n b S) (hle : n ≤ 47) (c : Nat) (hc : c < 256) (hnc : ¬ n = 47) : EX me_R_type 2 [.ref 48, .int (nI 0), .int (nI c)] S (fun r u => r = some (.int (nI (n + 1))) ∧ XM 0 (n + 1) (upn b n c) u ∧ (∀ m d, m ≤ 47 → XM 1 m d S → XM 1 m d u) ∧ fr [49, 50] S u ∧ u.2 = S.2) := by
  refine EX.of mok_R_type (Nat.le_of_ble_eq_true rfl) ?_
  refine run_ok 1 (c' := (1, [(0, .ref 48), (1, .int (nI 0)), (2, .int (nI c))], [.int (nI 0)], S)) rfl ?_
  refine x_callS [.int (nI 0)] rfl cs_R_isText.1 lk_7_123 cs_R_isText.2.1 rfl rfl (Nat.le_of_ble_eq_true rfl) (by decide) cs_R_isText.2.2 (m_isText S (nI 0)) ?_
  rintro r u ⟨hr, hu⟩
  rw [hr, hu]
  clear hr hu r u
  refine x_ifB_eq 18 rfl rfl (fun hn => absurd hn (fun z => z (inr_t (by decide) (by decide)))) (fun h4 => ?_)
  refine run_ok 3 (c' := (12, [(0, .ref 48), (1, .int (nI 0)), (2, .int (nI c))], [.int (nI 255), .int (nI 0), .int (nI c)], S)) rfl ?_
  refine x_callS [.int (nI c), .int (nI 0), .int (nI 255)] rfl cs_R_in.1 lk_7_115 cs_R_in.2.1 rfl rfl (Nat.le_of_ble_eq_true rfl) (by decide) cs_R_in.2.2 (m_in S (nI c) (nI 0) (nI 255)) ?_
  rintro r u ⟨hr, hu⟩
  rw [hr, hu]
  clear hr hu r u
  refine x_top (v' := b2 (0 ≤ nI c ∧ nI c < nI 256)) (b2_c (and_congr Iff.rfl (le_nI (n := 255) (by decide)))) ?_
  refine x_ifB_ne 21 rfl rfl (fun h15 => ?_) (fun hn => absurd (inr_t hc (by decide)) hn)
  refine run_ok 3 (c' := (26, [(0, .ref 48), (1, .int (nI 0)), (2, .int (nI c))], [.int (nI 0), .ref 49], S)) rfl ?_
  refine x_iaN (nI n) rfl rfl (by decide) (by omega) hX.1 ?_
  refine run_ok 1 (c' := (28, [(0, .ref 48), (1, .int (nI 0)), (2, .int (nI c))], [.int (nI 0), .int (nI n)], S)) rfl ?_
  refine x_ifN_ne 36 rfl rfl (by omega) (fun hn => absurd hn (by decide)) (fun _ => ?_)
  refine run_ok 2 (c' := (38, [(0, .ref 48), (1, .int (nI 0)), (2, .int (nI c))], [.int (nI 47), .int (nI n)], S)) rfl ?_
  refine x_icmpN_ne 44 rfl rfl (by omega) (by omega) (fun h38 => ?_) (fun hn => absurd hn hnc)
  refine run_ok 5 (c' := (52, [(0, .ref 48), (1, .int (nI 0)), (2, .int (nI c))], [.int ((nI 47) * (nI 0)), .ref 50], S)) rfl ?_
  refine x_top (v' := nI 0) rfl ?_
  refine run_ok 3 (c' := (57, [(0, .ref 48), (1, .int (nI 0)), (2, .int (nI c))], [.int (nI 0), .ref 49, .int (nI 0), .ref 50], S)) rfl ?_
  refine x_iaN (nI n) rfl rfl (by decide) (by omega) hX.1 ?_
  refine run_ok 1 (c' := (59, [(0, .ref 48), (1, .int (nI 0)), (2, .int (nI c))], [.int ((nI 0) + (nI n)), .ref 50], S)) rfl ?_
  refine x_top (v' := nI (0 + n)) (nI_add _ _) ?_
  refine run_ok 1 (c' := (60, [(0, .ref 48), (1, .int (nI 0)), (2, .int (nI c))], [.int (nI c), .int (nI (0 + n)), .ref 50], S)) rfl ?_
  refine x_isN rfl rfl (by decide) (by omega) ?_
  refine run_ok 4 (c' := (67, [(0, .ref 48), (1, .int (nI 0)), (2, .int (nI c))], [.int (nI 0), .ref 49, .int (nI 0), .ref 49], (pt S 50 (0 + n) (nI c)))) rfl ?_
  refine x_iaN (nI n) rfl rfl (by decide) (by omega) hX.1 ?_
  refine run_ok 2 (c' := (70, [(0, .ref 48), (1, .int (nI 0)), (2, .int (nI c))], [.int ((nI n) + (nI 1)), .int (nI 0), .ref 49], (pt S 50 (0 + n) (nI c)))) rfl ?_
  refine x_top (v' := nI (n + 1)) (nI_add _ _) ?_
  refine x_isN rfl rfl (by decide) (by omega) ?_
  refine run_ok 3 (c' := (76, [(0, .ref 48), (1, .int (nI 0)), (2, .int (nI c))], [.int (nI 0), .ref 49], (pt (pt S 50 (0 + n) (nI c)) 49 0 (nI (n + 1))))) rfl ?_
  refine x_iaN (nI (n + 1)) rfl rfl (by decide) (by omega) rfl ?_
  exact x_ret (r := some (.int (nI (n + 1)))) rfl rfl trivial ⟨rfl, XM.put hX hc, fun m d hm hd => XM.oth (by decide) (fun j hj => by omega) hd, (fr.rf.pt (by decide)).pt (by decide), rfl⟩ rfl

set_option maxHeartbeats 2000000 in
theorem m_type_full0 (S : ST) (n : Nat) (b : Nat → Nat) (hX : XM 0 n b S) (hle : n ≤ 47) (c : Nat) (hc : c < 256) (hnc : n = 47) : EX me_R_type 2 [.ref 48, .int (nI 0), .int (nI c)] S (fun r u => r = some (.int (-4)) ∧ u = S) := by
  refine EX.of mok_R_type (Nat.le_of_ble_eq_true rfl) ?_
  refine run_ok 1 (c' := (1, [(0, .ref 48), (1, .int (nI 0)), (2, .int (nI c))], [.int (nI 0)], S)) rfl ?_
  refine x_callS [.int (nI 0)] rfl cs_R_isText.1 lk_7_123 cs_R_isText.2.1 rfl rfl (Nat.le_of_ble_eq_true rfl) (by decide) cs_R_isText.2.2 (m_isText S (nI 0)) ?_
  rintro r u ⟨hr, hu⟩
  rw [hr, hu]
  clear hr hu r u
  refine x_ifB_eq 18 rfl rfl (fun hn => absurd hn (fun z => z (inr_t (by decide) (by decide)))) (fun h4 => ?_)
  refine run_ok 3 (c' := (12, [(0, .ref 48), (1, .int (nI 0)), (2, .int (nI c))], [.int (nI 255), .int (nI 0), .int (nI c)], S)) rfl ?_
  refine x_callS [.int (nI c), .int (nI 0), .int (nI 255)] rfl cs_R_in.1 lk_7_115 cs_R_in.2.1 rfl rfl (Nat.le_of_ble_eq_true rfl) (by decide) cs_R_in.2.2 (m_in S (nI c) (nI 0) (nI 255)) ?_
  rintro r u ⟨hr, hu⟩
  rw [hr, hu]
  clear hr hu r u
  refine x_top (v' := b2 (0 ≤ nI c ∧ nI c < nI 256)) (b2_c (and_congr Iff.rfl (le_nI (n := 255) (by decide)))) ?_
  refine x_ifB_ne 21 rfl rfl (fun h15 => ?_) (fun hn => absurd (inr_t hc (by decide)) hn)
  refine run_ok 3 (c' := (26, [(0, .ref 48), (1, .int (nI 0)), (2, .int (nI c))], [.int (nI 0), .ref 49], S)) rfl ?_
  refine x_iaN (nI n) rfl rfl (by decide) (by omega) hX.1 ?_
  refine run_ok 1 (c' := (28, [(0, .ref 48), (1, .int (nI 0)), (2, .int (nI c))], [.int (nI 0), .int (nI n)], S)) rfl ?_
  refine x_ifN_ne 36 rfl rfl (by omega) (fun hn => absurd hn (by decide)) (fun _ => ?_)
  refine run_ok 2 (c' := (38, [(0, .ref 48), (1, .int (nI 0)), (2, .int (nI c))], [.int (nI 47), .int (nI n)], S)) rfl ?_
  refine x_icmpN_ne 44 rfl rfl (by omega) (by omega) (fun hn => absurd hnc hn) (fun h38 => ?_)
  refine run_ok 1 (c' := (43, [(0, .ref 48), (1, .int (nI 0)), (2, .int (nI c))], [.int (-4)], S)) rfl ?_
  exact x_ret (r := some (.int (-4))) rfl rfl trivial ⟨rfl, rfl⟩ rfl

set_option maxHeartbeats 2000000 in
theorem m_wipe_ok0 (S : ST) (n : Nat) (b : Nat → Nat) (hX : XM 0 n b S) (hle : n ≤ 47) : EX me_R_wipe 2 [.ref 48, .int (nI 0)] S (fun r u => r = some (.int (nI n)) ∧ XM 0 0 b u ∧ (∀ m d, XM 1 m d S → XM 1 m d u) ∧ fr [49] S u ∧ u.2 = S.2) := by
  refine EX.of mok_R_wipe (Nat.le_of_ble_eq_true rfl) ?_
  refine run_ok 1 (c' := (1, [(0, .ref 48), (1, .int (nI 0))], [.int (nI 0)], S)) rfl ?_
  refine x_callS [.int (nI 0)] rfl cs_R_isText.1 lk_7_123 cs_R_isText.2.1 rfl rfl (Nat.le_of_ble_eq_true rfl) (by decide) cs_R_isText.2.2 (m_isText S (nI 0)) ?_
  rintro r u ⟨hr, hu⟩
  rw [hr, hu]
  clear hr hu r u
  refine x_ifB_ne 10 rfl rfl (fun h4 => ?_) (fun hn => absurd (inr_t (by decide) (by decide)) hn)
  refine run_ok 3 (c' := (15, [(0, .ref 48), (1, .int (nI 0))], [.int (nI 0), .ref 49], S)) rfl ?_
  refine x_iaN (nI n) rfl rfl (by decide) (by omega) hX.1 ?_
  refine run_ok 5 (c' := (23, [(0, .ref 48), (1, .int (nI 0)), (2, .int (nI n))], [.int (nI 0), .int (nI 0), .ref 49], S)) rfl ?_
  refine x_isN rfl rfl (by decide) (by omega) ?_
  refine run_ok 1 (c' := (25, [(0, .ref 48), (1, .int (nI 0)), (2, .int (nI n))], [.int (nI n)], (pt S 49 0 (nI 0)))) rfl ?_
  exact x_ret (r := some (.int (nI n))) rfl rfl trivial ⟨rfl, XM.len hX (Nat.zero_le _), fun m d hd => XM.olen (by decide) hd, fr.rf.pt (by decide), rfl⟩ rfl

set_option maxHeartbeats 2000000 in
theorem m_undo_not0 (S : ST) (n : Nat) (b : Nat → Nat) (hX : XM 0 n b S) (hle : n ≤ 47) (hn0 : n = 0) : EX me_R_undo 2 [.ref 48, .int (nI 0)] S (fun r u => r = some (.int (-3)) ∧ u = S) := by
  refine EX.of mok_R_undo (Nat.le_of_ble_eq_true rfl) ?_
  refine run_ok 1 (c' := (1, [(0, .ref 48), (1, .int (nI 0))], [.int (nI 0)], S)) rfl ?_
  refine x_callS [.int (nI 0)] rfl cs_R_isText.1 lk_7_123 cs_R_isText.2.1 rfl rfl (Nat.le_of_ble_eq_true rfl) (by decide) cs_R_isText.2.2 (m_isText S (nI 0)) ?_
  rintro r u ⟨hr, hu⟩
  rw [hr, hu]
  clear hr hu r u
  refine x_ifB_ne 10 rfl rfl (fun h4 => ?_) (fun hn => absurd (inr_t (by decide) (by decide)) hn)
  refine run_ok 3 (c' := (15, [(0, .ref 48), (1, .int (nI 0))], [.int (nI 0), .ref 49], S)) rfl ?_
  refine x_iaN (nI n) rfl rfl (by decide) (by omega) hX.1 ?_
  refine x_ifN_ne 22 rfl rfl (by omega) (fun hn => absurd hn0 hn) (fun h16 => ?_)
  refine run_ok 1 (c' := (21, [(0, .ref 48), (1, .int (nI 0))], [.int (-3)], S)) rfl ?_
  exact x_ret (r := some (.int (-3))) rfl rfl trivial ⟨rfl, rfl⟩ rfl

set_option maxHeartbeats 2000000 in
theorem m_undo_ok0 (S : ST) (n : Nat) (b : Nat → Nat) (hX : XM 0 n b S) (hle : n ≤ 47) (hn0 : ¬ n = 0) : EX me_R_undo 2 [.ref 48, .int (nI 0)] S (fun r u => r = some (.int (nI (n - 1))) ∧ XM 0 (n - 1) b u ∧ (∀ m d, XM 1 m d S → XM 1 m d u) ∧ fr [49] S u ∧ u.2 = S.2) := by
  refine EX.of mok_R_undo (Nat.le_of_ble_eq_true rfl) ?_
  refine run_ok 1 (c' := (1, [(0, .ref 48), (1, .int (nI 0))], [.int (nI 0)], S)) rfl ?_
  refine x_callS [.int (nI 0)] rfl cs_R_isText.1 lk_7_123 cs_R_isText.2.1 rfl rfl (Nat.le_of_ble_eq_true rfl) (by decide) cs_R_isText.2.2 (m_isText S (nI 0)) ?_
  rintro r u ⟨hr, hu⟩
  rw [hr, hu]
  clear hr hu r u
  refine x_ifB_ne 10 rfl rfl (fun h4 => ?_) (fun hn => absurd (inr_t (by decide) (by decide)) hn)
  refine run_ok 3 (c' := (15, [(0, .ref 48), (1, .int (nI 0))], [.int (nI 0), .ref 49], S)) rfl ?_
  refine x_iaN (nI n) rfl rfl (by decide) (by omega) hX.1 ?_
  refine x_ifN_ne 22 rfl rfl (by omega) (fun h16 => ?_) (fun hn => absurd hn hn0)
  refine run_ok 4 (c' := (28, [(0, .ref 48), (1, .int (nI 0))], [.int (nI 0), .ref 49, .int (nI 0), .ref 49], S)) rfl ?_
  refine x_iaN (nI n) rfl rfl (by decide) (by omega) hX.1 ?_
  refine run_ok 2 (c' := (31, [(0, .ref 48), (1, .int (nI 0))], [.int ((nI n) - (nI 1)), .int (nI 0), .ref 49], S)) rfl ?_
  refine x_top (v' := nI (n - 1)) (pk_sub (by omega)) ?_
  refine x_isN rfl rfl (by decide) (by omega) ?_
  refine run_ok 3 (c' := (37, [(0, .ref 48), (1, .int (nI 0))], [.int (nI 0), .ref 49], (pt S 49 0 (nI (n - 1))))) rfl ?_
  refine x_iaN (nI (n - 1)) rfl rfl (by decide) (by omega) rfl ?_
  exact x_ret (r := some (.int (nI (n - 1)))) rfl rfl trivial ⟨rfl, XM.len hX (by omega), fun m d hd => XM.olen (by decide) hd, fr.rf.pt (by decide), rfl⟩ rfl

set_option maxHeartbeats 2000000 in
theorem m_type_ok1 (S : ST) (n : Nat) (b : Nat → Nat) (hX : XM 1 n b S) (hle : n ≤ 39) (c : Nat) (hc : c < 256) (hnc : ¬ n = 39) : EX me_R_type 2 [.ref 48, .int (nI 1), .int (nI c)] S (fun r u => r = some (.int (nI (n + 1))) ∧ XM 1 (n + 1) (upn b n c) u ∧ (∀ m d, m ≤ 47 → XM 0 m d S → XM 0 m d u) ∧ fr [49, 50] S u ∧ u.2 = S.2) := by
  refine EX.of mok_R_type (Nat.le_of_ble_eq_true rfl) ?_
  refine run_ok 1 (c' := (1, [(0, .ref 48), (1, .int (nI 1)), (2, .int (nI c))], [.int (nI 1)], S)) rfl ?_
  refine x_callS [.int (nI 1)] rfl cs_R_isText.1 lk_7_123 cs_R_isText.2.1 rfl rfl (Nat.le_of_ble_eq_true rfl) (by decide) cs_R_isText.2.2 (m_isText S (nI 1)) ?_
  rintro r u ⟨hr, hu⟩
  rw [hr, hu]
  clear hr hu r u
  refine x_ifB_eq 18 rfl rfl (fun hn => absurd hn (fun z => z (inr_t (by decide) (by decide)))) (fun h4 => ?_)
  refine run_ok 3 (c' := (12, [(0, .ref 48), (1, .int (nI 1)), (2, .int (nI c))], [.int (nI 255), .int (nI 0), .int (nI c)], S)) rfl ?_
  refine x_callS [.int (nI c), .int (nI 0), .int (nI 255)] rfl cs_R_in.1 lk_7_115 cs_R_in.2.1 rfl rfl (Nat.le_of_ble_eq_true rfl) (by decide) cs_R_in.2.2 (m_in S (nI c) (nI 0) (nI 255)) ?_
  rintro r u ⟨hr, hu⟩
  rw [hr, hu]
  clear hr hu r u
  refine x_top (v' := b2 (0 ≤ nI c ∧ nI c < nI 256)) (b2_c (and_congr Iff.rfl (le_nI (n := 255) (by decide)))) ?_
  refine x_ifB_ne 21 rfl rfl (fun h15 => ?_) (fun hn => absurd (inr_t hc (by decide)) hn)
  refine run_ok 3 (c' := (26, [(0, .ref 48), (1, .int (nI 1)), (2, .int (nI c))], [.int (nI 1), .ref 49], S)) rfl ?_
  refine x_iaN (nI n) rfl rfl (by decide) (by omega) hX.1 ?_
  refine run_ok 1 (c' := (28, [(0, .ref 48), (1, .int (nI 1)), (2, .int (nI c))], [.int (nI 1), .int (nI n)], S)) rfl ?_
  refine x_ifN_ne 36 rfl rfl (by omega) (fun _ => ?_) (fun hn => absurd hn (by decide))
  refine run_ok 1 (c' := (38, [(0, .ref 48), (1, .int (nI 1)), (2, .int (nI c))], [.int (nI 39), .int (nI n)], S)) rfl ?_
  refine x_icmpN_ne 44 rfl rfl (by omega) (by omega) (fun h38 => ?_) (fun hn => absurd hn hnc)
  refine run_ok 5 (c' := (52, [(0, .ref 48), (1, .int (nI 1)), (2, .int (nI c))], [.int ((nI 47) * (nI 1)), .ref 50], S)) rfl ?_
  refine x_top (v' := nI 47) rfl ?_
  refine run_ok 3 (c' := (57, [(0, .ref 48), (1, .int (nI 1)), (2, .int (nI c))], [.int (nI 1), .ref 49, .int (nI 47), .ref 50], S)) rfl ?_
  refine x_iaN (nI n) rfl rfl (by decide) (by omega) hX.1 ?_
  refine run_ok 1 (c' := (59, [(0, .ref 48), (1, .int (nI 1)), (2, .int (nI c))], [.int ((nI 47) + (nI n)), .ref 50], S)) rfl ?_
  refine x_top (v' := nI (47 + n)) (nI_add _ _) ?_
  refine run_ok 1 (c' := (60, [(0, .ref 48), (1, .int (nI 1)), (2, .int (nI c))], [.int (nI c), .int (nI (47 + n)), .ref 50], S)) rfl ?_
  refine x_isN rfl rfl (by decide) (by omega) ?_
  refine run_ok 4 (c' := (67, [(0, .ref 48), (1, .int (nI 1)), (2, .int (nI c))], [.int (nI 1), .ref 49, .int (nI 1), .ref 49], (pt S 50 (47 + n) (nI c)))) rfl ?_
  refine x_iaN (nI n) rfl rfl (by decide) (by omega) hX.1 ?_
  refine run_ok 2 (c' := (70, [(0, .ref 48), (1, .int (nI 1)), (2, .int (nI c))], [.int ((nI n) + (nI 1)), .int (nI 1), .ref 49], (pt S 50 (47 + n) (nI c)))) rfl ?_
  refine x_top (v' := nI (n + 1)) (nI_add _ _) ?_
  refine x_isN rfl rfl (by decide) (by omega) ?_
  refine run_ok 3 (c' := (76, [(0, .ref 48), (1, .int (nI 1)), (2, .int (nI c))], [.int (nI 1), .ref 49], (pt (pt S 50 (47 + n) (nI c)) 49 1 (nI (n + 1))))) rfl ?_
  refine x_iaN (nI (n + 1)) rfl rfl (by decide) (by omega) rfl ?_
  exact x_ret (r := some (.int (nI (n + 1)))) rfl rfl trivial ⟨rfl, XM.put hX hc, fun m d hm hd => XM.oth (by decide) (fun j hj => by omega) hd, (fr.rf.pt (by decide)).pt (by decide), rfl⟩ rfl

set_option maxHeartbeats 2000000 in
theorem m_type_full1 (S : ST) (n : Nat) (b : Nat → Nat) (hX : XM 1 n b S) (hle : n ≤ 39) (c : Nat) (hc : c < 256) (hnc : n = 39) : EX me_R_type 2 [.ref 48, .int (nI 1), .int (nI c)] S (fun r u => r = some (.int (-4)) ∧ u = S) := by
  refine EX.of mok_R_type (Nat.le_of_ble_eq_true rfl) ?_
  refine run_ok 1 (c' := (1, [(0, .ref 48), (1, .int (nI 1)), (2, .int (nI c))], [.int (nI 1)], S)) rfl ?_
  refine x_callS [.int (nI 1)] rfl cs_R_isText.1 lk_7_123 cs_R_isText.2.1 rfl rfl (Nat.le_of_ble_eq_true rfl) (by decide) cs_R_isText.2.2 (m_isText S (nI 1)) ?_
  rintro r u ⟨hr, hu⟩
  rw [hr, hu]
  clear hr hu r u
  refine x_ifB_eq 18 rfl rfl (fun hn => absurd hn (fun z => z (inr_t (by decide) (by decide)))) (fun h4 => ?_)
  refine run_ok 3 (c' := (12, [(0, .ref 48), (1, .int (nI 1)), (2, .int (nI c))], [.int (nI 255), .int (nI 0), .int (nI c)], S)) rfl ?_
  refine x_callS [.int (nI c), .int (nI 0), .int (nI 255)] rfl cs_R_in.1 lk_7_115 cs_R_in.2.1 rfl rfl (Nat.le_of_ble_eq_true rfl) (by decide) cs_R_in.2.2 (m_in S (nI c) (nI 0) (nI 255)) ?_
  rintro r u ⟨hr, hu⟩
  rw [hr, hu]
  clear hr hu r u
  refine x_top (v' := b2 (0 ≤ nI c ∧ nI c < nI 256)) (b2_c (and_congr Iff.rfl (le_nI (n := 255) (by decide)))) ?_
  refine x_ifB_ne 21 rfl rfl (fun h15 => ?_) (fun hn => absurd (inr_t hc (by decide)) hn)
  refine run_ok 3 (c' := (26, [(0, .ref 48), (1, .int (nI 1)), (2, .int (nI c))], [.int (nI 1), .ref 49], S)) rfl ?_
  refine x_iaN (nI n) rfl rfl (by decide) (by omega) hX.1 ?_
  refine run_ok 1 (c' := (28, [(0, .ref 48), (1, .int (nI 1)), (2, .int (nI c))], [.int (nI 1), .int (nI n)], S)) rfl ?_
  refine x_ifN_ne 36 rfl rfl (by omega) (fun _ => ?_) (fun hn => absurd hn (by decide))
  refine run_ok 1 (c' := (38, [(0, .ref 48), (1, .int (nI 1)), (2, .int (nI c))], [.int (nI 39), .int (nI n)], S)) rfl ?_
  refine x_icmpN_ne 44 rfl rfl (by omega) (by omega) (fun hn => absurd hnc hn) (fun h38 => ?_)
  refine run_ok 1 (c' := (43, [(0, .ref 48), (1, .int (nI 1)), (2, .int (nI c))], [.int (-4)], S)) rfl ?_
  exact x_ret (r := some (.int (-4))) rfl rfl trivial ⟨rfl, rfl⟩ rfl

set_option maxHeartbeats 2000000 in
theorem m_wipe_ok1 (S : ST) (n : Nat) (b : Nat → Nat) (hX : XM 1 n b S) (hle : n ≤ 39) : EX me_R_wipe 2 [.ref 48, .int (nI 1)] S (fun r u => r = some (.int (nI n)) ∧ XM 1 0 b u ∧ (∀ m d, XM 0 m d S → XM 0 m d u) ∧ fr [49] S u ∧ u.2 = S.2) := by
  refine EX.of mok_R_wipe (Nat.le_of_ble_eq_true rfl) ?_
  refine run_ok 1 (c' := (1, [(0, .ref 48), (1, .int (nI 1))], [.int (nI 1)], S)) rfl ?_
  refine x_callS [.int (nI 1)] rfl cs_R_isText.1 lk_7_123 cs_R_isText.2.1 rfl rfl (Nat.le_of_ble_eq_true rfl) (by decide) cs_R_isText.2.2 (m_isText S (nI 1)) ?_
  rintro r u ⟨hr, hu⟩
  rw [hr, hu]
  clear hr hu r u
  refine x_ifB_ne 10 rfl rfl (fun h4 => ?_) (fun hn => absurd (inr_t (by decide) (by decide)) hn)
  refine run_ok 3 (c' := (15, [(0, .ref 48), (1, .int (nI 1))], [.int (nI 1), .ref 49], S)) rfl ?_
  refine x_iaN (nI n) rfl rfl (by decide) (by omega) hX.1 ?_
  refine run_ok 5 (c' := (23, [(0, .ref 48), (1, .int (nI 1)), (2, .int (nI n))], [.int (nI 0), .int (nI 1), .ref 49], S)) rfl ?_
  refine x_isN rfl rfl (by decide) (by omega) ?_
  refine run_ok 1 (c' := (25, [(0, .ref 48), (1, .int (nI 1)), (2, .int (nI n))], [.int (nI n)], (pt S 49 1 (nI 0)))) rfl ?_
  exact x_ret (r := some (.int (nI n))) rfl rfl trivial ⟨rfl, XM.len hX (Nat.zero_le _), fun m d hd => XM.olen (by decide) hd, fr.rf.pt (by decide), rfl⟩ rfl

set_option maxHeartbeats 2000000 in
theorem m_undo_not1 (S : ST) (n : Nat) (b : Nat → Nat) (hX : XM 1 n b S) (hle : n ≤ 39) (hn0 : n = 0) : EX me_R_undo 2 [.ref 48, .int (nI 1)] S (fun r u => r = some (.int (-3)) ∧ u = S) := by
  refine EX.of mok_R_undo (Nat.le_of_ble_eq_true rfl) ?_
  refine run_ok 1 (c' := (1, [(0, .ref 48), (1, .int (nI 1))], [.int (nI 1)], S)) rfl ?_
  refine x_callS [.int (nI 1)] rfl cs_R_isText.1 lk_7_123 cs_R_isText.2.1 rfl rfl (Nat.le_of_ble_eq_true rfl) (by decide) cs_R_isText.2.2 (m_isText S (nI 1)) ?_
  rintro r u ⟨hr, hu⟩
  rw [hr, hu]
  clear hr hu r u
  refine x_ifB_ne 10 rfl rfl (fun h4 => ?_) (fun hn => absurd (inr_t (by decide) (by decide)) hn)
  refine run_ok 3 (c' := (15, [(0, .ref 48), (1, .int (nI 1))], [.int (nI 1), .ref 49], S)) rfl ?_
  refine x_iaN (nI n) rfl rfl (by decide) (by omega) hX.1 ?_
  refine x_ifN_ne 22 rfl rfl (by omega) (fun hn => absurd hn0 hn) (fun h16 => ?_)
  refine run_ok 1 (c' := (21, [(0, .ref 48), (1, .int (nI 1))], [.int (-3)], S)) rfl ?_
  exact x_ret (r := some (.int (-3))) rfl rfl trivial ⟨rfl, rfl⟩ rfl

set_option maxHeartbeats 2000000 in
theorem m_undo_ok1 (S : ST) (n : Nat) (b : Nat → Nat) (hX : XM 1 n b S) (hle : n ≤ 39) (hn0 : ¬ n = 0) : EX me_R_undo 2 [.ref 48, .int (nI 1)] S (fun r u => r = some (.int (nI (n - 1))) ∧ XM 1 (n - 1) b u ∧ (∀ m d, XM 0 m d S → XM 0 m d u) ∧ fr [49] S u ∧ u.2 = S.2) := by
  refine EX.of mok_R_undo (Nat.le_of_ble_eq_true rfl) ?_
  refine run_ok 1 (c' := (1, [(0, .ref 48), (1, .int (nI 1))], [.int (nI 1)], S)) rfl ?_
  refine x_callS [.int (nI 1)] rfl cs_R_isText.1 lk_7_123 cs_R_isText.2.1 rfl rfl (Nat.le_of_ble_eq_true rfl) (by decide) cs_R_isText.2.2 (m_isText S (nI 1)) ?_
  rintro r u ⟨hr, hu⟩
  rw [hr, hu]
  clear hr hu r u
  refine x_ifB_ne 10 rfl rfl (fun h4 => ?_) (fun hn => absurd (inr_t (by decide) (by decide)) hn)
  refine run_ok 3 (c' := (15, [(0, .ref 48), (1, .int (nI 1))], [.int (nI 1), .ref 49], S)) rfl ?_
  refine x_iaN (nI n) rfl rfl (by decide) (by omega) hX.1 ?_
  refine x_ifN_ne 22 rfl rfl (by omega) (fun h16 => ?_) (fun hn => absurd hn hn0)
  refine run_ok 4 (c' := (28, [(0, .ref 48), (1, .int (nI 1))], [.int (nI 1), .ref 49, .int (nI 1), .ref 49], S)) rfl ?_
  refine x_iaN (nI n) rfl rfl (by decide) (by omega) hX.1 ?_
  refine run_ok 2 (c' := (31, [(0, .ref 48), (1, .int (nI 1))], [.int ((nI n) - (nI 1)), .int (nI 1), .ref 49], S)) rfl ?_
  refine x_top (v' := nI (n - 1)) (pk_sub (by omega)) ?_
  refine x_isN rfl rfl (by decide) (by omega) ?_
  refine run_ok 3 (c' := (37, [(0, .ref 48), (1, .int (nI 1))], [.int (nI 1), .ref 49], (pt S 49 1 (nI (n - 1))))) rfl ?_
  refine x_iaN (nI (n - 1)) rfl rfl (by decide) (by omega) rfl ?_
  exact x_ret (r := some (.int (nI (n - 1)))) rfl rfl trivial ⟨rfl, XM.len hX (by omega), fun m d hd => XM.olen (by decide) hd, fr.rf.pt (by decide), rfl⟩ rfl

set_option maxHeartbeats 2000000 in
theorem m_type_bad (S : ST) (x y : Int32) (hbad : ¬ ((0 ≤ x ∧ x < nI 2) ∧ (0 ≤ y ∧ y < nI 256))) : EX me_R_type 2 [.ref 48, .int x, .int y] S (fun r u => r = some (.int ((-2))) ∧ u = S) := by
  refine EX.of mok_R_type (Nat.le_of_ble_eq_true rfl) ?_
  refine run_ok 1 (c' := (1, [(0, .ref 48), (1, .int x), (2, .int y)], [.int x], S)) rfl ?_
  refine x_callS [.int x] rfl cs_R_isText.1 lk_7_123 cs_R_isText.2.1 rfl rfl (Nat.le_of_ble_eq_true rfl) (by decide) cs_R_isText.2.2 (m_isText S (x)) ?_
  rintro r u ⟨hr, hu⟩
  rw [hr, hu]
  clear hr hu r u
  refine x_ifB_eq 18 rfl rfl (fun h4 => ?_) (fun h4 => ?_)
  · refine run_ok 1 (c' := (20, [(0, .ref 48), (1, .int x), (2, .int y)], [.int (-2)], S)) rfl ?_
    exact x_ret (r := some (.int (-2))) rfl rfl trivial ⟨rfl, rfl⟩ rfl
  · refine run_ok 3 (c' := (12, [(0, .ref 48), (1, .int x), (2, .int y)], [.int (nI 255), .int (nI 0), .int y], S)) rfl ?_
    refine x_callS [.int y, .int (nI 0), .int (nI 255)] rfl cs_R_in.1 lk_7_115 cs_R_in.2.1 rfl rfl (Nat.le_of_ble_eq_true rfl) (by decide) cs_R_in.2.2 (m_in S (y) (nI 0) (nI 255)) ?_
    rintro r u ⟨hr, hu⟩
    rw [hr, hu]
    clear hr hu r u
    refine x_top (v' := b2 (0 ≤ y ∧ y < nI 256)) (b2_c (and_congr Iff.rfl (le_nI (n := 255) (by decide)))) ?_
    refine x_ifB_ne 21 rfl rfl (fun h15 => ?_) (fun h15 => ?_)
    · exact absurd ⟨h4, h15⟩ hbad
    · refine run_ok 1 (c' := (20, [(0, .ref 48), (1, .int x), (2, .int y)], [.int (-2)], S)) rfl ?_
      exact x_ret (r := some (.int (-2))) rfl rfl trivial ⟨rfl, rfl⟩ rfl

set_option maxHeartbeats 2000000 in
theorem m_wipe_bad (S : ST) (x : Int32) (hbad : ¬ (0 ≤ x ∧ x < nI 2)) : EX me_R_wipe 2 [.ref 48, .int x] S (fun r u => r = some (.int ((-2))) ∧ u = S) := by
  refine EX.of mok_R_wipe (Nat.le_of_ble_eq_true rfl) ?_
  refine run_ok 1 (c' := (1, [(0, .ref 48), (1, .int x)], [.int x], S)) rfl ?_
  refine x_callS [.int x] rfl cs_R_isText.1 lk_7_123 cs_R_isText.2.1 rfl rfl (Nat.le_of_ble_eq_true rfl) (by decide) cs_R_isText.2.2 (m_isText S (x)) ?_
  rintro r u ⟨hr, hu⟩
  rw [hr, hu]
  clear hr hu r u
  refine x_ifB_ne 10 rfl rfl (fun h4 => ?_) (fun h4 => ?_)
  · exact absurd h4 hbad
  · refine run_ok 1 (c' := (9, [(0, .ref 48), (1, .int x)], [.int (-2)], S)) rfl ?_
    exact x_ret (r := some (.int (-2))) rfl rfl trivial ⟨rfl, rfl⟩ rfl

set_option maxHeartbeats 2000000 in
theorem m_undo_bad (S : ST) (x : Int32) (hbad : ¬ (0 ≤ x ∧ x < nI 2)) : EX me_R_undo 2 [.ref 48, .int x] S (fun r u => r = some (.int ((-2))) ∧ u = S) := by
  refine EX.of mok_R_undo (Nat.le_of_ble_eq_true rfl) ?_
  refine run_ok 1 (c' := (1, [(0, .ref 48), (1, .int x)], [.int x], S)) rfl ?_
  refine x_callS [.int x] rfl cs_R_isText.1 lk_7_123 cs_R_isText.2.1 rfl rfl (Nat.le_of_ble_eq_true rfl) (by decide) cs_R_isText.2.2 (m_isText S (x)) ?_
  rintro r u ⟨hr, hu⟩
  rw [hr, hu]
  clear hr hu r u
  refine x_ifB_ne 10 rfl rfl (fun h4 => ?_) (fun h4 => ?_)
  · exact absurd h4 hbad
  · refine run_ok 1 (c' := (9, [(0, .ref 48), (1, .int x)], [.int (-2)], S)) rfl ?_
    exact x_ret (r := some (.int (-2))) rfl rfl trivial ⟨rfl, rfl⟩ rfl

/-- the events, as the model keeps them -/
def EM (T : TD) (u : ST) : Prop := rh u 57 (tne T) (tek T) ∧ rh u 58 (tne T) (tew T) ∧ rh u 59 (tne T) (teb T) ∧ u.1 48 10 = nI (tne T) ∧ tne T ≤ 8
set_option maxHeartbeats 2000000 in
theorem m_event_ok (S : ST) (T : TD) (hE : EM T S) (kd w b : Nat) (hkd : kd < 3) (hw : w < 24) (hb : b < 8) (hne : tne T < 8) : EX me_R_event 2 [.ref 48, .int (nI kd), .int (nI w), .int (nI b)] S (fun r u => r = some (.int (nI (tne T + 1))) ∧ EM (wev T (tne T + 1) (upn (tek T) (tne T) kd) (upn (tew T) (tne T) w) (upn (teb T) (tne T) b)) u ∧ fr [48, 57, 58, 59] S u ∧ f48 [10] S u ∧ u.2 = S.2) := by
  refine EX.of mok_R_event (Nat.le_of_ble_eq_true rfl) ?_
  obtain ⟨e1, e2, e3, e4, e5⟩ := id hE
  refine run_ok 3 (c' := (3, [(0, .ref 48), (1, .int (nI kd)), (2, .int (nI w)), (3, .int (nI b))], [.int (nI 2), .int (nI 0), .int (nI kd)], S)) rfl ?_
  refine x_callS [.int (nI kd), .int (nI 0), .int (nI 2)] rfl cs_R_in.1 lk_7_115 cs_R_in.2.1 rfl rfl (Nat.le_of_ble_eq_true rfl) (by decide) cs_R_in.2.2 (m_in S (nI kd) (nI 0) (nI 2)) ?_
  rintro r u ⟨hr, hu⟩
  rw [hr, hu]
  clear hr hu r u
  refine x_top (v' := b2 (0 ≤ nI kd ∧ nI kd < nI 3)) (b2_c (and_congr Iff.rfl (le_nI (n := 2) (by decide)))) ?_
  refine x_ifB_eq 23 rfl rfl (fun hn => absurd hn (fun z => z (inr_t hkd (by decide)))) (fun h6 => ?_)
  refine run_ok 1 (c' := (10, [(0, .ref 48), (1, .int (nI kd)), (2, .int (nI w)), (3, .int (nI b))], [.int (nI w)], S)) rfl ?_
  refine x_callS [.int (nI w)] rfl cs_R_isWeek.1 lk_7_130 cs_R_isWeek.2.1 rfl rfl (Nat.le_of_ble_eq_true rfl) (by decide) cs_R_isWeek.2.2 (m_isWeek S (nI w)) ?_
  rintro r u ⟨hr, hu⟩
  rw [hr, hu]
  clear hr hu r u
  refine x_ifB_eq 23 rfl rfl (fun hn => absurd hn (fun z => z (inr_t hw (by decide)))) (fun h13 => ?_)
  refine run_ok 1 (c' := (17, [(0, .ref 48), (1, .int (nI kd)), (2, .int (nI w)), (3, .int (nI b))], [.int (nI b)], S)) rfl ?_
  refine x_callS [.int (nI b)] rfl cs_R_isEight.1 lk_7_119 cs_R_isEight.2.1 rfl rfl (Nat.le_of_ble_eq_true rfl) (by decide) cs_R_isEight.2.2 (m_isEight S (nI b)) ?_
  rintro r u ⟨hr, hu⟩
  rw [hr, hu]
  clear hr hu r u
  refine x_ifB_ne 26 rfl rfl (fun h20 => ?_) (fun hn => absurd (inr_t hb (by decide)) hn)
  refine run_ok 2 (c' := (30, [(0, .ref 48), (1, .int (nI kd)), (2, .int (nI w)), (3, .int (nI b))], [.int (S.1 48 10)], S)) rfl ?_
  refine x_top (v' := nI (tne T)) e4 ?_
  refine run_ok 1 (c' := (32, [(0, .ref 48), (1, .int (nI kd)), (2, .int (nI w)), (3, .int (nI b))], [.int (nI 8), .int (nI (tne T))], S)) rfl ?_
  refine x_icmpN_ne 38 rfl rfl (by omega) (by omega) (fun h32 => ?_) (fun hn => absurd hn (by omega))
  refine run_ok 4 (c' := (46, [(0, .ref 48), (1, .int (nI kd)), (2, .int (nI w)), (3, .int (nI b))], [.int (S.1 48 10), .ref 57], S)) rfl ?_
  refine x_top (v' := nI (tne T)) e4 ?_
  refine run_ok 1 (c' := (47, [(0, .ref 48), (1, .int (nI kd)), (2, .int (nI w)), (3, .int (nI b))], [.int (nI kd), .int (nI (tne T)), .ref 57], S)) rfl ?_
  refine x_isN rfl rfl (by decide) (by omega) ?_
  refine run_ok 4 (c' := (56, [(0, .ref 48), (1, .int (nI kd)), (2, .int (nI w)), (3, .int (nI b))], [.int (S.1 48 10), .ref 58], (pt S 57 (tne T) (nI kd)))) rfl ?_
  refine x_top (v' := nI (tne T)) e4 ?_
  refine run_ok 1 (c' := (57, [(0, .ref 48), (1, .int (nI kd)), (2, .int (nI w)), (3, .int (nI b))], [.int (nI w), .int (nI (tne T)), .ref 58], (pt S 57 (tne T) (nI kd)))) rfl ?_
  refine x_isN rfl rfl (by decide) (by omega) ?_
  refine run_ok 4 (c' := (66, [(0, .ref 48), (1, .int (nI kd)), (2, .int (nI w)), (3, .int (nI b))], [.int (S.1 48 10), .ref 59], (pt (pt S 57 (tne T) (nI kd)) 58 (tne T) (nI w)))) rfl ?_
  refine x_top (v' := nI (tne T)) e4 ?_
  refine run_ok 1 (c' := (67, [(0, .ref 48), (1, .int (nI kd)), (2, .int (nI w)), (3, .int (nI b))], [.int (nI b), .int (nI (tne T)), .ref 59], (pt (pt S 57 (tne T) (nI kd)) 58 (tne T) (nI w)))) rfl ?_
  refine x_isN rfl rfl (by decide) (by omega) ?_
  refine run_ok 3 (c' := (73, [(0, .ref 48), (1, .int (nI kd)), (2, .int (nI w)), (3, .int (nI b))], [.int (S.1 48 10), .ref 48], (pt (pt (pt S 57 (tne T) (nI kd)) 58 (tne T) (nI w)) 59 (tne T) (nI b)))) rfl ?_
  refine x_top (v' := nI (tne T)) e4 ?_
  refine run_ok 2 (c' := (75, [(0, .ref 48), (1, .int (nI kd)), (2, .int (nI w)), (3, .int (nI b))], [.int ((nI (tne T)) + (nI 1)), .ref 48], (pt (pt (pt S 57 (tne T) (nI kd)) 58 (tne T) (nI w)) 59 (tne T) (nI b)))) rfl ?_
  refine x_top (v' := nI ((tne T) + 1)) (nI_add _ _) ?_
  refine run_ok 3 (c' := (82, [(0, .ref 48), (1, .int (nI kd)), (2, .int (nI w)), (3, .int (nI b))], [.int (nI ((tne T) + 1))], (pt (pt (pt (pt S 57 (tne T) (nI kd)) 58 (tne T) (nI w)) 59 (tne T) (nI b)) 48 10 (nI ((tne T) + 1))))) rfl ?_
  exact x_ret (r := some (.int (nI ((tne T) + 1)))) rfl rfl trivial ⟨rfl, ⟨((rh.add e1 rfl).ne (by decide)).ne (by decide) |>.ne (by decide), (rh.add (e2.ne (by decide)) rfl).ne (by decide) |>.ne (by decide), (rh.add ((e3.ne (by decide)).ne (by decide)) rfl).ne (by decide), rfl, hne⟩, ((((fr.rf.pt (by decide)).pt (by decide)).pt (by decide)).pt (by decide)), f48.put (fun _ _ => rfl) (by decide), rfl⟩ rfl

set_option maxHeartbeats 2000000 in
theorem m_event_full (S : ST) (T : TD) (hE : EM T S) (kd w b : Nat) (hkd : kd < 3) (hw : w < 24) (hb : b < 8) (hne : ¬ tne T < 8) : EX me_R_event 2 [.ref 48, .int (nI kd), .int (nI w), .int (nI b)] S (fun r u => r = some (.int (-4)) ∧ u = S) := by
  refine EX.of mok_R_event (Nat.le_of_ble_eq_true rfl) ?_
  obtain ⟨e1, e2, e3, e4, e5⟩ := id hE
  refine run_ok 3 (c' := (3, [(0, .ref 48), (1, .int (nI kd)), (2, .int (nI w)), (3, .int (nI b))], [.int (nI 2), .int (nI 0), .int (nI kd)], S)) rfl ?_
  refine x_callS [.int (nI kd), .int (nI 0), .int (nI 2)] rfl cs_R_in.1 lk_7_115 cs_R_in.2.1 rfl rfl (Nat.le_of_ble_eq_true rfl) (by decide) cs_R_in.2.2 (m_in S (nI kd) (nI 0) (nI 2)) ?_
  rintro r u ⟨hr, hu⟩
  rw [hr, hu]
  clear hr hu r u
  refine x_top (v' := b2 (0 ≤ nI kd ∧ nI kd < nI 3)) (b2_c (and_congr Iff.rfl (le_nI (n := 2) (by decide)))) ?_
  refine x_ifB_eq 23 rfl rfl (fun hn => absurd hn (fun z => z (inr_t hkd (by decide)))) (fun h6 => ?_)
  refine run_ok 1 (c' := (10, [(0, .ref 48), (1, .int (nI kd)), (2, .int (nI w)), (3, .int (nI b))], [.int (nI w)], S)) rfl ?_
  refine x_callS [.int (nI w)] rfl cs_R_isWeek.1 lk_7_130 cs_R_isWeek.2.1 rfl rfl (Nat.le_of_ble_eq_true rfl) (by decide) cs_R_isWeek.2.2 (m_isWeek S (nI w)) ?_
  rintro r u ⟨hr, hu⟩
  rw [hr, hu]
  clear hr hu r u
  refine x_ifB_eq 23 rfl rfl (fun hn => absurd hn (fun z => z (inr_t hw (by decide)))) (fun h13 => ?_)
  refine run_ok 1 (c' := (17, [(0, .ref 48), (1, .int (nI kd)), (2, .int (nI w)), (3, .int (nI b))], [.int (nI b)], S)) rfl ?_
  refine x_callS [.int (nI b)] rfl cs_R_isEight.1 lk_7_119 cs_R_isEight.2.1 rfl rfl (Nat.le_of_ble_eq_true rfl) (by decide) cs_R_isEight.2.2 (m_isEight S (nI b)) ?_
  rintro r u ⟨hr, hu⟩
  rw [hr, hu]
  clear hr hu r u
  refine x_ifB_ne 26 rfl rfl (fun h20 => ?_) (fun hn => absurd (inr_t hb (by decide)) hn)
  refine run_ok 2 (c' := (30, [(0, .ref 48), (1, .int (nI kd)), (2, .int (nI w)), (3, .int (nI b))], [.int (S.1 48 10)], S)) rfl ?_
  refine x_top (v' := nI (tne T)) e4 ?_
  refine run_ok 1 (c' := (32, [(0, .ref 48), (1, .int (nI kd)), (2, .int (nI w)), (3, .int (nI b))], [.int (nI 8), .int (nI (tne T))], S)) rfl ?_
  refine x_icmpN_ne 38 rfl rfl (by omega) (by omega) (fun hn => absurd (by omega) hn) (fun h32 => ?_)
  refine run_ok 1 (c' := (37, [(0, .ref 48), (1, .int (nI kd)), (2, .int (nI w)), (3, .int (nI b))], [.int (-4)], S)) rfl ?_
  exact x_ret (r := some (.int (-4))) rfl rfl trivial ⟨rfl, rfl⟩ rfl

set_option maxHeartbeats 2000000 in
theorem m_event_bad (S : ST) (x y z : Int32) (hbad : ¬ ((0 ≤ x ∧ x < nI 3) ∧ (0 ≤ y ∧ y < nI 24) ∧ (0 ≤ z ∧ z < nI 8))) : EX me_R_event 2 [.ref 48, .int x, .int y, .int z] S (fun r u => r = some (.int ((-2))) ∧ u = S) := by
  refine EX.of mok_R_event (Nat.le_of_ble_eq_true rfl) ?_
  refine run_ok 3 (c' := (3, [(0, .ref 48), (1, .int x), (2, .int y), (3, .int z)], [.int (nI 2), .int (nI 0), .int x], S)) rfl ?_
  refine x_callS [.int x, .int (nI 0), .int (nI 2)] rfl cs_R_in.1 lk_7_115 cs_R_in.2.1 rfl rfl (Nat.le_of_ble_eq_true rfl) (by decide) cs_R_in.2.2 (m_in S (x) (nI 0) (nI 2)) ?_
  rintro r u ⟨hr, hu⟩
  rw [hr, hu]
  clear hr hu r u
  refine x_top (v' := b2 (0 ≤ x ∧ x < nI 3)) (b2_c (and_congr Iff.rfl (le_nI (n := 2) (by decide)))) ?_
  refine x_ifB_eq 23 rfl rfl (fun h6 => ?_) (fun h6 => ?_)
  · refine run_ok 1 (c' := (25, [(0, .ref 48), (1, .int x), (2, .int y), (3, .int z)], [.int (-2)], S)) rfl ?_
    exact x_ret (r := some (.int (-2))) rfl rfl trivial ⟨rfl, rfl⟩ rfl
  · refine run_ok 1 (c' := (10, [(0, .ref 48), (1, .int x), (2, .int y), (3, .int z)], [.int y], S)) rfl ?_
    refine x_callS [.int y] rfl cs_R_isWeek.1 lk_7_130 cs_R_isWeek.2.1 rfl rfl (Nat.le_of_ble_eq_true rfl) (by decide) cs_R_isWeek.2.2 (m_isWeek S (y)) ?_
    rintro r u ⟨hr, hu⟩
    rw [hr, hu]
    clear hr hu r u
    refine x_ifB_eq 23 rfl rfl (fun h13 => ?_) (fun h13 => ?_)
    · refine run_ok 1 (c' := (25, [(0, .ref 48), (1, .int x), (2, .int y), (3, .int z)], [.int (-2)], S)) rfl ?_
      exact x_ret (r := some (.int (-2))) rfl rfl trivial ⟨rfl, rfl⟩ rfl
    · refine run_ok 1 (c' := (17, [(0, .ref 48), (1, .int x), (2, .int y), (3, .int z)], [.int z], S)) rfl ?_
      refine x_callS [.int z] rfl cs_R_isEight.1 lk_7_119 cs_R_isEight.2.1 rfl rfl (Nat.le_of_ble_eq_true rfl) (by decide) cs_R_isEight.2.2 (m_isEight S (z)) ?_
      rintro r u ⟨hr, hu⟩
      rw [hr, hu]
      clear hr hu r u
      refine x_ifB_ne 26 rfl rfl (fun h20 => ?_) (fun h20 => ?_)
      · exact absurd ⟨h6, h13, h20⟩ hbad
      · refine run_ok 1 (c' := (25, [(0, .ref 48), (1, .int x), (2, .int y), (3, .int z)], [.int (-2)], S)) rfl ?_
        exact x_ret (r := some (.int (-2))) rfl rfl trivial ⟨rfl, rfl⟩ rfl

set_option maxHeartbeats 2000000 in
theorem m_back_not (S : ST) (T : TD) (hE : EM T S) (hne : tne T = 0) : EX me_R_back 0 [.ref 48] S (fun r u => r = some (.int (-3)) ∧ u = S) := by
  refine EX.of mok_R_back (Nat.le_of_ble_eq_true rfl) ?_
  obtain ⟨e1, e2, e3, e4, e5⟩ := id hE
  refine run_ok 2 (c' := (4, [(0, .ref 48)], [.int (S.1 48 10)], S)) rfl ?_
  refine x_top (v' := nI (tne T)) e4 ?_
  refine x_ifN_ne 10 rfl rfl (by omega) (fun hn => absurd hne hn) (fun h4 => ?_)
  refine run_ok 1 (c' := (9, [(0, .ref 48)], [.int (-3)], S)) rfl ?_
  exact x_ret (r := some (.int (-3))) rfl rfl trivial ⟨rfl, rfl⟩ rfl

set_option maxHeartbeats 2000000 in
theorem m_back_ok (S : ST) (T : TD) (hE : EM T S) (hne : ¬ tne T = 0) : EX me_R_back 0 [.ref 48] S (fun r u => r = some (.int (nI (tne T - 1))) ∧ EM (wev T (tne T - 1) (tek T) (tew T) (teb T)) u ∧ fr [48] S u ∧ f48 [10] S u ∧ u.2 = S.2) := by
  refine EX.of mok_R_back (Nat.le_of_ble_eq_true rfl) ?_
  obtain ⟨e1, e2, e3, e4, e5⟩ := id hE
  refine run_ok 2 (c' := (4, [(0, .ref 48)], [.int (S.1 48 10)], S)) rfl ?_
  refine x_top (v' := nI (tne T)) e4 ?_
  refine x_ifN_ne 10 rfl rfl (by omega) (fun h4 => ?_) (fun hn => absurd hn hne)
  refine run_ok 3 (c' := (15, [(0, .ref 48)], [.int (S.1 48 10), .ref 48], S)) rfl ?_
  refine x_top (v' := nI (tne T)) e4 ?_
  refine run_ok 2 (c' := (17, [(0, .ref 48)], [.int ((nI (tne T)) - (nI 1)), .ref 48], S)) rfl ?_
  refine x_top (v' := nI (tne T - 1)) (pk_sub (by omega)) ?_
  refine run_ok 3 (c' := (24, [(0, .ref 48)], [.int (nI (tne T - 1))], (pt S 48 10 (nI (tne T - 1))))) rfl ?_
  exact x_ret (r := some (.int (nI (tne T - 1)))) rfl rfl trivial ⟨rfl, ⟨rh.le (e1.ne (by decide)) (Nat.sub_le _ _), rh.le (e2.ne (by decide)) (Nat.sub_le _ _), rh.le (e3.ne (by decide)) (Nat.sub_le _ _), rfl, Nat.le_trans (Nat.sub_le _ _) e5⟩, fr.rf.pt (by decide), f48.rf.put (by decide), rfl⟩ rfl

/-- the sheet s, as the model keeps it: lost, form, size -/
def HM (s lo fm sz : Nat) (u : ST) : Prop := u.1 78 s = nI (1 - lo) ∧ u.1 79 s = nI fm ∧ u.1 80 s = nI sz ∧ lo ≤ 1 ∧ fm ≤ 2 ∧ sz ≤ 60
theorem m_meets (S : ST) (x : Nat) : EX me_R_meets 0 [.ref 48, .int (nI x)] S (fun r u => r = some (.int ((-10) - nI x)) ∧ u = pt S 48 42 (nI x)) := by
  refine EX.of mok_R_meets (Nat.le_of_ble_eq_true rfl) ?_
  refine run_ok 6 (c' := (9, [(0, .ref 48), (1, .int (nI x))], [.int ((-10) - (nI x))], (pt S 48 42 (nI x)))) rfl ?_
  exact x_ret (r := some (.int ((-10) - (nI x)))) rfl rfl trivial ⟨rfl, rfl⟩ rfl

set_option maxHeartbeats 2000000 in
theorem m_read_bad (S : ST) (x : Int32) (hbad : ¬ (0 ≤ x ∧ x < nI 4)) : EX me_R_read 3 [.ref 48, .int x] S (fun r u => r = some (.int ((-2))) ∧ u = S) := by
  refine EX.of mok_R_read (Nat.le_of_ble_eq_true rfl) ?_
  refine run_ok 1 (c' := (1, [(0, .ref 48), (1, .int x)], [.int x], S)) rfl ?_
  refine x_callS [.int x] rfl cs_R_isSheet.1 lk_7_172 cs_R_isSheet.2.1 rfl rfl (Nat.le_of_ble_eq_true rfl) (by decide) cs_R_isSheet.2.2 (m_isSheet S (x)) ?_
  rintro r u ⟨hr, hu⟩
  rw [hr, hu]
  clear hr hu r u
  refine x_ifB_ne 10 rfl rfl (fun h4 => ?_) (fun h4 => ?_)
  · exact absurd h4 hbad
  · refine run_ok 1 (c' := (9, [(0, .ref 48), (1, .int x)], [.int (-2)], S)) rfl ?_
    exact x_ret (r := some (.int (-2))) rfl rfl trivial ⟨rfl, rfl⟩ rfl

set_option maxHeartbeats 2000000 in
theorem m_read_null (S : ST) (s : Nat) (hs4 : s < 4) (lo fm sz : Nat) (hH : HM s lo fm sz S) (hlo : lo = 1) : EX me_R_read 3 [.ref 48, .int (nI s)] S (fun r u => r = some (.int ((-10) - nI 1)) ∧ u = pt S 48 42 (nI 1)) := by
  refine EX.of mok_R_read (Nat.le_of_ble_eq_true rfl) ?_
  obtain ⟨k1, k2, k3, hl1, hf2, hs60⟩ := id hH
  refine run_ok 1 (c' := (1, [(0, .ref 48), (1, .int (nI s))], [.int (nI s)], S)) rfl ?_
  refine x_callS [.int (nI s)] rfl cs_R_isSheet.1 lk_7_172 cs_R_isSheet.2.1 rfl rfl (Nat.le_of_ble_eq_true rfl) (by decide) cs_R_isSheet.2.2 (m_isSheet S (nI s)) ?_
  rintro r u ⟨hr, hu⟩
  rw [hr, hu]
  clear hr hu r u
  refine x_ifB_ne 10 rfl rfl (fun h4 => ?_) (fun hn => absurd (inr_t hs4 (by decide)) hn)
  refine run_ok 3 (c' := (15, [(0, .ref 48), (1, .int (nI s))], [.int (nI s), .ref 78], S)) rfl ?_
  refine x_zaN (nI (1 - lo)) rfl rfl (by decide) (by omega) k1 ?_
  refine x_ifN_ne 25 rfl rfl (by omega) (fun hn => absurd (by omega) hn) (fun h16 => ?_)
  refine run_ok 2 (c' := (21, [(0, .ref 48), (1, .int (nI s))], [.int (nI 1), .ref 48], S)) rfl ?_
  refine x_callV [.int (nI 1)] rfl cv_R_meets.1 lk_7_175 cv_R_meets.2.1 cv_R_meets.2.2.1 rfl cv_R_meets.2.2.2.1 rfl rfl (Nat.le_of_ble_eq_true rfl) (by decide) cv_R_meets.2.2.2.2 (m_meets S 1) ?_
  rintro r z ⟨hr, hu⟩
  rw [hr, hu]
  clear hr hu r z
  exact x_ret (r := some (.int ((-10) - nI 1))) rfl rfl trivial ⟨rfl, rfl⟩ rfl

set_option maxHeartbeats 2000000 in
theorem m_read_ok (S : ST) (T : TD) (hE : EM T S) (s : Nat) (hs4 : s < 4) (lo fm sz : Nat) (hH : HM s lo fm sz S) (hlo0 : lo = 0) (f : Nat → Int32) (hfi : ∀ j, j < sz → S.1 81 (60 * s + j) = f j) : EX me_R_read 3 [.ref 48, .int (nI s)] S (fun r u => r = some (.int (nI (rdf f (sz / 3) 0 T).1)) ∧ EM (rdf f (sz / 3) 0 T).2 u ∧ fr [48, 57, 58, 59] S u ∧ f48 [10] S u ∧ u.2 = S.2) := by
  refine EX.of mok_R_read (Nat.le_of_ble_eq_true rfl) ?_
  obtain ⟨k1, k2, k3, hl1, hf2, hs60⟩ := id hH
  have H : ∀ i, i ≤ sz / 3 → ∀ (v : ST) (T1 : TD), EM T1 v → fr [48, 57, 58, 59] S v → f48 [10] S v → v.2 = S.2 → rdf f (sz / 3) 0 T = rdf f (sz / 3 - i) i T1 → BX me_R_read 3 none (fun r u => r = some (.int (nI (rdf f (sz / 3) 0 T).1)) ∧ EM (rdf f (sz / 3) 0 T).2 u ∧ fr [48, 57, 58, 59] S u ∧ f48 [10] S u ∧ u.2 = S.2) (32, [(0, .ref 48), (1, .int (nI s)), (2, .int (nI i)), (3, .int (nI (60 * s)))], [], v) := by
    refine loop_up (P := fun i => ∀ (v : ST) (T1 : TD), EM T1 v → fr [48, 57, 58, 59] S v → f48 [10] S v → v.2 = S.2 → rdf f (sz / 3) 0 T = rdf f (sz / 3 - i) i T1 → BX me_R_read 3 none (fun r u => r = some (.int (nI (rdf f (sz / 3) 0 T).1)) ∧ EM (rdf f (sz / 3) 0 T).2 u ∧ fr [48, 57, 58, 59] S u ∧ f48 [10] S u ∧ u.2 = S.2) (32, [(0, .ref 48), (1, .int (nI s)), (2, .int (nI i)), (3, .int (nI (60 * s)))], [], v)) (sz / 3) ?_ ?_
    · intro v T1 hE1 hf h8 h2 hs
      refine run_ok 3 (c' := (35, [(0, .ref 48), (1, .int (nI s)), (2, .int (nI (sz / 3))), (3, .int (nI (60 * s)))], [.int ((nI 3) * (nI (sz / 3)))], v)) rfl ?_
      refine x_top (v' := nI (3 * (sz / 3))) (pk_mul _ _) ?_
      refine run_ok 2 (c' := (37, [(0, .ref 48), (1, .int (nI s)), (2, .int (nI (sz / 3))), (3, .int (nI (60 * s)))], [.int ((nI (3 * (sz / 3))) + (nI 2))], v)) rfl ?_
      refine x_top (v' := nI ((3 * (sz / 3)) + 2)) (nI_add _ _) ?_
      refine run_ok 3 (c' := (42, [(0, .ref 48), (1, .int (nI s)), (2, .int (nI (sz / 3))), (3, .int (nI (60 * s)))], [.int (nI s), .ref 80, .int (nI ((3 * (sz / 3)) + 2))], v)) rfl ?_
      refine x_iaN (nI sz) rfl rfl (by decide) (by omega) (by rw [hf 80 (by decide)]; exact k3) ?_
      refine x_icmpN_ge 93 rfl rfl (by omega) (by omega) (fun h43 => ?_) (fun hn => absurd (show sz ≤ (3 * (sz / 3)) + 2 by omega) hn)
      refine run_ok 1 (c' := (94, [(0, .ref 48), (1, .int (nI s)), (2, .int (nI (sz / 3))), (3, .int (nI (60 * s)))], [.int (nI (sz / 3))], v)) rfl ?_
      refine x_ret (r := some (.int (nI (sz / 3)))) rfl rfl trivial ?_ rfl
      rw [Nat.sub_self] at hs
      rw [hs]
      exact ⟨rfl, hE1, hf, h8, h2⟩
    · intro i hi ih v T1 hE1 hf h8 h2 hs
      refine run_ok 3 (c' := (35, [(0, .ref 48), (1, .int (nI s)), (2, .int (nI i)), (3, .int (nI (60 * s)))], [.int ((nI 3) * (nI i))], v)) rfl ?_
      refine x_top (v' := nI (3 * i)) (pk_mul _ _) ?_
      refine run_ok 2 (c' := (37, [(0, .ref 48), (1, .int (nI s)), (2, .int (nI i)), (3, .int (nI (60 * s)))], [.int ((nI (3 * i)) + (nI 2))], v)) rfl ?_
      refine x_top (v' := nI ((3 * i) + 2)) (nI_add _ _) ?_
      refine run_ok 3 (c' := (42, [(0, .ref 48), (1, .int (nI s)), (2, .int (nI i)), (3, .int (nI (60 * s)))], [.int (nI s), .ref 80, .int (nI ((3 * i) + 2))], v)) rfl ?_
      refine x_iaN (nI sz) rfl rfl (by decide) (by omega) (by rw [hf 80 (by decide)]; exact k3) ?_
      refine x_icmpN_ge 93 rfl rfl (by omega) (by omega) (fun hn => absurd hn (show ¬ sz ≤ (3 * i) + 2 by omega)) (fun h43 => ?_)
      refine run_ok 7 (c' := (55, [(0, .ref 48), (1, .int (nI s)), (2, .int (nI i)), (3, .int (nI (60 * s)))], [.int ((nI 3) * (nI i)), .int (nI (60 * s)), .ref 81, .ref 48], v)) rfl ?_
      refine x_top (v' := nI (3 * i)) (pk_mul _ _) ?_
      refine run_ok 1 (c' := (56, [(0, .ref 48), (1, .int (nI s)), (2, .int (nI i)), (3, .int (nI (60 * s)))], [.int ((nI (60 * s)) + (nI (3 * i))), .ref 81, .ref 48], v)) rfl ?_
      refine x_top (v' := nI ((60 * s) + (3 * i))) (nI_add _ _) ?_
      refine x_iaN (f (3 * i)) rfl rfl (by decide) (by omega) (by rw [hf 81 (by decide), show (60 * s) + (3 * i) = 60 * s + (3 * i) by omega]; exact hfi _ (by omega)) ?_
      refine run_ok 6 (c' := (65, [(0, .ref 48), (1, .int (nI s)), (2, .int (nI i)), (3, .int (nI (60 * s)))], [.int ((nI 3) * (nI i)), .int (nI (60 * s)), .ref 81, .int (f (3 * i)), .ref 48], v)) rfl ?_
      refine x_top (v' := nI (3 * i)) (pk_mul _ _) ?_
      refine run_ok 1 (c' := (66, [(0, .ref 48), (1, .int (nI s)), (2, .int (nI i)), (3, .int (nI (60 * s)))], [.int ((nI (60 * s)) + (nI (3 * i))), .ref 81, .int (f (3 * i)), .ref 48], v)) rfl ?_
      refine x_top (v' := nI ((60 * s) + (3 * i))) (nI_add _ _) ?_
      refine run_ok 2 (c' := (68, [(0, .ref 48), (1, .int (nI s)), (2, .int (nI i)), (3, .int (nI (60 * s)))], [.int ((nI ((60 * s) + (3 * i))) + (nI 1)), .ref 81, .int (f (3 * i)), .ref 48], v)) rfl ?_
      refine x_top (v' := nI (((60 * s) + (3 * i)) + 1)) (nI_add _ _) ?_
      refine x_iaN (f (3 * i + 1)) rfl rfl (by decide) (by omega) (by rw [hf 81 (by decide), show ((60 * s) + (3 * i)) + 1 = 60 * s + (3 * i + 1) by omega]; exact hfi _ (by omega)) ?_
      refine run_ok 6 (c' := (77, [(0, .ref 48), (1, .int (nI s)), (2, .int (nI i)), (3, .int (nI (60 * s)))], [.int ((nI 3) * (nI i)), .int (nI (60 * s)), .ref 81, .int (f (3 * i + 1)), .int (f (3 * i)), .ref 48], v)) rfl ?_
      refine x_top (v' := nI (3 * i)) (pk_mul _ _) ?_
      refine run_ok 1 (c' := (78, [(0, .ref 48), (1, .int (nI s)), (2, .int (nI i)), (3, .int (nI (60 * s)))], [.int ((nI (60 * s)) + (nI (3 * i))), .ref 81, .int (f (3 * i + 1)), .int (f (3 * i)), .ref 48], v)) rfl ?_
      refine x_top (v' := nI ((60 * s) + (3 * i))) (nI_add _ _) ?_
      refine run_ok 2 (c' := (80, [(0, .ref 48), (1, .int (nI s)), (2, .int (nI i)), (3, .int (nI (60 * s)))], [.int ((nI ((60 * s) + (3 * i))) + (nI 2)), .ref 81, .int (f (3 * i + 1)), .int (f (3 * i)), .ref 48], v)) rfl ?_
      refine x_top (v' := nI (((60 * s) + (3 * i)) + 2)) (nI_add _ _) ?_
      refine x_iaN (f (3 * i + 2)) rfl rfl (by decide) (by omega) (by rw [hf 81 (by decide), show ((60 * s) + (3 * i)) + 2 = 60 * s + (3 * i + 2) by omega]; exact hfi _ (by omega)) ?_
      rw [show sz / 3 - i = (sz / 3 - (i + 1)) + 1 by omega] at hs
      by_cases hok : okd (f (3 * i)) (f (3 * i + 1)) (f (3 * i + 2)) = true
      · obtain ⟨ok1, ok2, ok3⟩ := of_decide_eq_true hok
        obtain ⟨kd, hkd, e1⟩ := inr_f (by decide) ok1
        obtain ⟨wk, hwk, e2⟩ := inr_f (by decide) ok2
        obtain ⟨bo, hbo, e3⟩ := inr_f (by decide) ok3
        by_cases hne : tne T1 < 8
        · rw [show rdf f (sz / 3 - (i + 1) + 1) i T1 = rdf f (sz / 3 - (i + 1)) (i + 1) (adv T1 (f (3 * i)) (f (3 * i + 1)) (f (3 * i + 2))) from if_pos ⟨hok, hne⟩] at hs
          rw [e1, e2, e3] at hs ⊢
          refine x_callV [.int (nI kd), .int (nI wk), .int (nI bo)] rfl cv_R_event.1 lk_7_178 cv_R_event.2.1 cv_R_event.2.2.1 rfl cv_R_event.2.2.2.1 rfl rfl (Nat.le_of_ble_eq_true rfl) (by decide) cv_R_event.2.2.2.2 (m_event_ok v T1 hE1 kd wk bo hkd hwk hbo hne) ?_
          rintro r z ⟨hr, hTz, hfz, h8z, h2z⟩
          rw [hr]
          clear hr r
          have e5 := hE1.2.2.2.2
          refine x_ifN_le 93 rfl rfl (by omega) (fun hn => absurd hn (show ¬ tne T1 + 1 ≤ 0 by omega)) (fun h84 => ?_)
          refine run_ok 1 (c' := (90, [(0, .ref 48), (1, .int (nI s)), (2, .int (nI i + nI 1)), (3, .int (nI (60 * s)))], [], z)) rfl ?_
          rw [nI_add i 1]
          refine run_ok 1 (c' := (32, [(0, .ref 48), (1, .int (nI s)), (2, .int (nI (i + 1))), (3, .int (nI (60 * s)))], [], z)) rfl ?_
          refine ih z (adv T1 (nI kd) (nI wk) (nI bo)) (by unfold adv; rw [nI_clamp (by omega), nI_clamp (by omega), nI_clamp (by omega)]; exact hTz) (hf.tr hfz) (h8.tr h8z) (h2z.trans h2) hs
        · rw [show rdf f (sz / 3 - (i + 1) + 1) i T1 = (i, T1) from if_neg (fun z => hne z.2)] at hs
          rw [e1, e2, e3]
          refine x_callV [.int (nI kd), .int (nI wk), .int (nI bo)] rfl cv_R_event.1 lk_7_178 cv_R_event.2.1 cv_R_event.2.2.1 rfl cv_R_event.2.2.2.1 rfl rfl (Nat.le_of_ble_eq_true rfl) (by decide) cv_R_event.2.2.2.2 (m_event_full v T1 hE1 kd wk bo hkd hwk hbo hne) ?_
          rintro r x ⟨hr, hu⟩
          rw [hr, hu]
          clear hr hu r x
          refine x_if_le 93 rfl rfl (fun h84 => ?_) (fun hn => absurd (by decide) hn)
          refine run_ok 1 (c' := (94, [(0, .ref 48), (1, .int (nI s)), (2, .int (nI i)), (3, .int (nI (60 * s)))], [.int (nI i)], v)) rfl ?_
          refine x_ret (r := some (.int (nI i))) rfl rfl trivial ?_ rfl
          rw [hs]
          exact ⟨rfl, hE1, hf, h8, h2⟩
      · rw [show rdf f (sz / 3 - (i + 1) + 1) i T1 = (i, T1) from if_neg (fun z => hok z.1)] at hs
        refine x_callV [.int (f (3 * i)), .int (f (3 * i + 1)), .int (f (3 * i + 2))] rfl cv_R_event.1 lk_7_178 cv_R_event.2.1 cv_R_event.2.2.1 rfl cv_R_event.2.2.2.1 rfl rfl (Nat.le_of_ble_eq_true rfl) (by decide) cv_R_event.2.2.2.2 (m_event_bad v (f (3 * i)) (f (3 * i + 1)) (f (3 * i + 2)) (fun z => hok (decide_eq_true z))) ?_
        rintro r x ⟨hr, hu⟩
        rw [hr, hu]
        clear hr hu r x
        refine x_if_le 93 rfl rfl (fun h84 => ?_) (fun hn => absurd (by decide) hn)
        refine run_ok 1 (c' := (94, [(0, .ref 48), (1, .int (nI s)), (2, .int (nI i)), (3, .int (nI (60 * s)))], [.int (nI i)], v)) rfl ?_
        refine x_ret (r := some (.int (nI i))) rfl rfl trivial ?_ rfl
        rw [hs]
        exact ⟨rfl, hE1, hf, h8, h2⟩
  refine run_ok 1 (c' := (1, [(0, .ref 48), (1, .int (nI s))], [.int (nI s)], S)) rfl ?_
  refine x_callS [.int (nI s)] rfl cs_R_isSheet.1 lk_7_172 cs_R_isSheet.2.1 rfl rfl (Nat.le_of_ble_eq_true rfl) (by decide) cs_R_isSheet.2.2 (m_isSheet S (nI s)) ?_
  rintro r u ⟨hr, hu⟩
  rw [hr, hu]
  clear hr hu r u
  refine x_ifB_ne 10 rfl rfl (fun h4 => ?_) (fun hn => absurd (inr_t hs4 (by decide)) hn)
  refine run_ok 3 (c' := (15, [(0, .ref 48), (1, .int (nI s))], [.int (nI s), .ref 78], S)) rfl ?_
  refine x_zaN (nI (1 - lo)) rfl rfl (by decide) (by omega) k1 ?_
  refine x_ifN_ne 25 rfl rfl (by omega) (fun h16 => ?_) (fun hn => absurd hn (by omega))
  refine run_ok 5 (c' := (31, [(0, .ref 48), (1, .int (nI s)), (2, .int (nI 0))], [.int ((nI 60) * (nI s))], S)) rfl ?_
  refine x_top (v' := nI (60 * s)) (pk_mul _ _) ?_
  refine run_ok 1 (c' := (32, [(0, .ref 48), (1, .int (nI s)), (2, .int (nI 0)), (3, .int (nI (60 * s)))], [], S)) rfl ?_
  exact H 0 (Nat.zero_le _) S T hE fr.rf f48.rf rfl rfl


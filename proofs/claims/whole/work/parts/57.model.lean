/-! the model: sheets, counts -/
set_option maxHeartbeats 2000000 in
theorem m_sheet_bad (S : ST) (x y z : Int32) (hbad : ¬ ((0 ≤ x ∧ x < nI 4) ∧ (0 ≤ y ∧ y < nI 3) ∧ z ≤ nI 60)) : EX me_R_sheet 2 [.ref 48, .int x, .int y, .int z] S (fun r u => r = some (.int ((-2))) ∧ u = S) := by
  refine EX.of mok_R_sheet (Nat.le_of_ble_eq_true rfl) ?_
  refine run_ok 1 (c' := (1, [(0, .ref 48), (1, .int x), (2, .int y), (3, .int z)], [.int x], S)) rfl ?_
  refine x_callS [.int x] rfl cs_R_isSheet.1 lk_7_172 cs_R_isSheet.2.1 rfl rfl (Nat.le_of_ble_eq_true rfl) (by decide) cs_R_isSheet.2.2 (m_isSheet S (x)) ?_
  rintro r u ⟨hr, hu⟩
  rw [hr, hu]
  clear hr hu r u
  refine x_ifB_eq 22 rfl rfl (fun h4 => ?_) (fun h4 => ?_)
  · refine run_ok 1 (c' := (24, [(0, .ref 48), (1, .int x), (2, .int y), (3, .int z)], [.int (-2)], S)) rfl ?_
    exact x_ret (r := some (.int (-2))) rfl rfl trivial ⟨rfl, rfl⟩ rfl
  · refine run_ok 3 (c' := (10, [(0, .ref 48), (1, .int x), (2, .int y), (3, .int z)], [.int (nI 2), .int (nI 0), .int y], S)) rfl ?_
    refine x_callS [.int y, .int (nI 0), .int (nI 2)] rfl cs_R_in.1 lk_7_115 cs_R_in.2.1 rfl rfl (Nat.le_of_ble_eq_true rfl) (by decide) cs_R_in.2.2 (m_in S (y) (nI 0) (nI 2)) ?_
    rintro r u ⟨hr, hu⟩
    rw [hr, hu]
    clear hr hu r u
    refine x_top (v' := b2 (0 ≤ y ∧ y < nI 3)) (b2_c (and_congr Iff.rfl (le_nI (n := 2) (by decide)))) ?_
    refine x_ifB_eq 22 rfl rfl (fun h13 => ?_) (fun h13 => ?_)
    · refine run_ok 1 (c' := (24, [(0, .ref 48), (1, .int x), (2, .int y), (3, .int z)], [.int (-2)], S)) rfl ?_
      exact x_ret (r := some (.int (-2))) rfl rfl trivial ⟨rfl, rfl⟩ rfl
    · refine run_ok 2 (c' := (19, [(0, .ref 48), (1, .int x), (2, .int y), (3, .int z)], [.int (nI 60), .int z], S)) rfl ?_
      refine x_icmp_le 25 rfl rfl (fun h19 => ?_) (fun h19 => ?_)
      · exact absurd ⟨h4, h13, h19⟩ hbad
      · refine run_ok 1 (c' := (24, [(0, .ref 48), (1, .int x), (2, .int y), (3, .int z)], [.int (-2)], S)) rfl ?_
        exact x_ret (r := some (.int (-2))) rfl rfl trivial ⟨rfl, rfl⟩ rfl

set_option maxHeartbeats 2000000 in
theorem m_sheet_neg (S : ST) (s : Nat) (hs4 : s < 4) (f : Nat) (z : Int32) (hf3 : f < 3) (hz60 : z ≤ nI 60) (hneg : z < 0) : EX me_R_sheet 2 [.ref 48, .int (nI s), .int (nI f), .int z] S (fun r u => r = some (.int ((-10) - nI 5)) ∧ u = pt S 48 42 (nI 5)) := by
  refine EX.of mok_R_sheet (Nat.le_of_ble_eq_true rfl) ?_
  refine run_ok 1 (c' := (1, [(0, .ref 48), (1, .int (nI s)), (2, .int (nI f)), (3, .int z)], [.int (nI s)], S)) rfl ?_
  refine x_callS [.int (nI s)] rfl cs_R_isSheet.1 lk_7_172 cs_R_isSheet.2.1 rfl rfl (Nat.le_of_ble_eq_true rfl) (by decide) cs_R_isSheet.2.2 (m_isSheet S (nI s)) ?_
  rintro r u ⟨hr, hu⟩
  rw [hr, hu]
  clear hr hu r u
  refine x_ifB_eq 22 rfl rfl (fun hn => absurd hn (fun z => z (inr_t hs4 (by decide)))) (fun h4 => ?_)
  refine run_ok 3 (c' := (10, [(0, .ref 48), (1, .int (nI s)), (2, .int (nI f)), (3, .int z)], [.int (nI 2), .int (nI 0), .int (nI f)], S)) rfl ?_
  refine x_callS [.int (nI f), .int (nI 0), .int (nI 2)] rfl cs_R_in.1 lk_7_115 cs_R_in.2.1 rfl rfl (Nat.le_of_ble_eq_true rfl) (by decide) cs_R_in.2.2 (m_in S (nI f) (nI 0) (nI 2)) ?_
  rintro r u ⟨hr, hu⟩
  rw [hr, hu]
  clear hr hu r u
  refine x_top (v' := b2 (0 ≤ nI f ∧ nI f < nI 3)) (b2_c (and_congr Iff.rfl (le_nI (n := 2) (by decide)))) ?_
  refine x_ifB_eq 22 rfl rfl (fun hn => absurd hn (fun z => z (inr_t hf3 (by decide)))) (fun h13 => ?_)
  refine run_ok 2 (c' := (19, [(0, .ref 48), (1, .int (nI s)), (2, .int (nI f)), (3, .int z)], [.int (nI 60), .int z], S)) rfl ?_
  refine x_icmp_le 25 rfl rfl (fun h19 => ?_) (fun hn => absurd hz60 hn)
  refine run_ok 1 (c' := (26, [(0, .ref 48), (1, .int (nI s)), (2, .int (nI f)), (3, .int z)], [.int z], S)) rfl ?_
  refine x_if_ge 35 rfl rfl (fun hn => absurd hn (Int32.not_le.mpr hneg)) (fun h26 => ?_)
  refine run_ok 2 (c' := (31, [(0, .ref 48), (1, .int (nI s)), (2, .int (nI f)), (3, .int z)], [.int (nI 5), .ref 48], S)) rfl ?_
  refine x_callV [.int (nI 5)] rfl cv_R_meets.1 lk_7_175 cv_R_meets.2.1 cv_R_meets.2.2.1 rfl cv_R_meets.2.2.2.1 rfl rfl (Nat.le_of_ble_eq_true rfl) (by decide) cv_R_meets.2.2.2.2 (m_meets S 5) ?_
  rintro r z ⟨hr, hu⟩
  rw [hr, hu]
  clear hr hu r z
  exact x_ret (r := some (.int ((-10) - nI 5))) rfl rfl trivial ⟨rfl, rfl⟩ rfl

set_option maxHeartbeats 2000000 in
theorem m_sheet_ok (S : ST) (s : Nat) (hs4 : s < 4) (f m : Nat) (hf3 : f < 3) (hm60 : m ≤ 60) : EX me_R_sheet 2 [.ref 48, .int (nI s), .int (nI f), .int (nI m)] S (fun r u => r = some (.int (nI m)) ∧ HM s 0 f m u ∧ (∀ j, j < 60 → u.1 81 (60 * s + j) = nI 0) ∧ (∀ x, ¬ (60 * s ≤ x ∧ x < 60 * s + 60) → u.1 81 x = S.1 81 x) ∧ (∀ t lo fm sz, t ≠ s → HM t lo fm sz S → HM t lo fm sz u) ∧ fr [78, 79, 80, 81] S u ∧ u.2 = S.2) := by
  refine EX.of mok_R_sheet (Nat.le_of_ble_eq_true rfl) ?_
  have H : ∀ i, i ≤ 60 → ∀ v : ST, (v.1 78 = upd (S.1 78) s (nI 1) ∧ v.1 79 = upd (S.1 79) s (nI f) ∧ v.1 80 = upd (S.1 80) s (nI m)) → (∀ j, j < i → v.1 81 (60 * s + j) = nI 0) → (∀ x, ¬ (60 * s ≤ x ∧ x < 60 * s + 60) → v.1 81 x = S.1 81 x) → fr [78, 79, 80, 81] S v → v.2 = S.2 → BX me_R_sheet 2 none (fun r u => r = some (.int (nI m)) ∧ HM s 0 f m u ∧ (∀ j, j < 60 → u.1 81 (60 * s + j) = nI 0) ∧ (∀ x, ¬ (60 * s ≤ x ∧ x < 60 * s + 60) → u.1 81 x = S.1 81 x) ∧ (∀ t lo fm sz, t ≠ s → HM t lo fm sz S → HM t lo fm sz u) ∧ fr [78, 79, 80, 81] S u ∧ u.2 = S.2) (59, [(0, .ref 48), (1, .int (nI s)), (2, .int (nI f)), (3, .int (nI m)), (4, .int (nI i))], [], v) := by
    refine loop_up (P := fun i => ∀ v : ST, (v.1 78 = upd (S.1 78) s (nI 1) ∧ v.1 79 = upd (S.1 79) s (nI f) ∧ v.1 80 = upd (S.1 80) s (nI m)) → (∀ j, j < i → v.1 81 (60 * s + j) = nI 0) → (∀ x, ¬ (60 * s ≤ x ∧ x < 60 * s + 60) → v.1 81 x = S.1 81 x) → fr [78, 79, 80, 81] S v → v.2 = S.2 → BX me_R_sheet 2 none (fun r u => r = some (.int (nI m)) ∧ HM s 0 f m u ∧ (∀ j, j < 60 → u.1 81 (60 * s + j) = nI 0) ∧ (∀ x, ¬ (60 * s ≤ x ∧ x < 60 * s + 60) → u.1 81 x = S.1 81 x) ∧ (∀ t lo fm sz, t ≠ s → HM t lo fm sz S → HM t lo fm sz u) ∧ fr [78, 79, 80, 81] S u ∧ u.2 = S.2) (59, [(0, .ref 48), (1, .int (nI s)), (2, .int (nI f)), (3, .int (nI m)), (4, .int (nI i))], [], v)) 60 ?_ ?_
    · intro v a a0 a1 hf h2
      refine run_ok 2 (c' := (63, [(0, .ref 48), (1, .int (nI s)), (2, .int (nI f)), (3, .int (nI m)), (4, .int (nI 60))], [.int (nI 60), .int (nI 60)], v)) rfl ?_
      refine x_icmpN_ge 85 rfl rfl (by omega) (by omega) (fun h63 => ?_) (fun hn => absurd (Nat.le_refl _) hn)
      refine run_ok 1 (c' := (86, [(0, .ref 48), (1, .int (nI s)), (2, .int (nI f)), (3, .int (nI m)), (4, .int (nI 60))], [.int (nI m)], v)) rfl ?_
      exact x_ret (r := some (.int (nI m))) rfl rfl trivial ⟨rfl, ⟨by rw [a.1]; exact if_pos rfl, by rw [a.2.1]; exact if_pos rfl, by rw [a.2.2]; exact if_pos rfl, by decide, by omega, hm60⟩, a0, a1, fun t lo fm sz ht hh => ⟨by rw [a.1]; exact (if_neg ht).trans hh.1, by rw [a.2.1]; exact (if_neg ht).trans hh.2.1, by rw [a.2.2]; exact (if_neg ht).trans hh.2.2.1, hh.2.2.2⟩, hf, h2⟩ rfl
    · intro i hi ih v a a0 a1 hf h2
      refine run_ok 2 (c' := (63, [(0, .ref 48), (1, .int (nI s)), (2, .int (nI f)), (3, .int (nI m)), (4, .int (nI i))], [.int (nI 60), .int (nI i)], v)) rfl ?_
      refine x_icmpN_ge 85 rfl rfl (by omega) (by omega) (fun hn => absurd hn (show ¬ 60 ≤ i by omega)) (fun h63 => ?_)
      refine run_ok 5 (c' := (74, [(0, .ref 48), (1, .int (nI s)), (2, .int (nI f)), (3, .int (nI m)), (4, .int (nI i))], [.int ((nI 60) * (nI s)), .ref 81], v)) rfl ?_
      refine x_top (v' := nI (60 * s)) (pk_mul _ _) ?_
      refine run_ok 2 (c' := (77, [(0, .ref 48), (1, .int (nI s)), (2, .int (nI f)), (3, .int (nI m)), (4, .int (nI i))], [.int ((nI (60 * s)) + (nI i)), .ref 81], v)) rfl ?_
      refine x_top (v' := nI ((60 * s) + i)) (nI_add _ _) ?_
      refine run_ok 1 (c' := (78, [(0, .ref 48), (1, .int (nI s)), (2, .int (nI f)), (3, .int (nI m)), (4, .int (nI i))], [.int (nI 0), .int (nI ((60 * s) + i)), .ref 81], v)) rfl ?_
      refine x_isN rfl rfl (by decide) (by omega) ?_
      refine run_ok 1 (c' := (82, [(0, .ref 48), (1, .int (nI s)), (2, .int (nI f)), (3, .int (nI m)), (4, .int (nI i + nI 1))], [], (pt v 81 ((60 * s) + i) (nI 0)))) rfl ?_
      rw [nI_add i 1]
      refine run_ok 1 (c' := (59, [(0, .ref 48), (1, .int (nI s)), (2, .int (nI f)), (3, .int (nI m)), (4, .int (nI (i + 1)))], [], (pt v 81 ((60 * s) + i) (nI 0)))) rfl ?_
      refine ih _ a (fun j hj => ?_) (fun x hx => ?_) (hf.pt (by decide)) h2
      · show upd (v.1 81) (60 * s + i) (nI 0) (60 * s + j) = _
        unfold upd
        split
        · rfl
        · exact a0 j (by omega)
      · show upd (v.1 81) (60 * s + i) (nI 0) x = _
        unfold upd
        rw [if_neg (by omega)]
        exact a1 x hx
  refine run_ok 1 (c' := (1, [(0, .ref 48), (1, .int (nI s)), (2, .int (nI f)), (3, .int (nI m))], [.int (nI s)], S)) rfl ?_
  refine x_callS [.int (nI s)] rfl cs_R_isSheet.1 lk_7_172 cs_R_isSheet.2.1 rfl rfl (Nat.le_of_ble_eq_true rfl) (by decide) cs_R_isSheet.2.2 (m_isSheet S (nI s)) ?_
  rintro r u ⟨hr, hu⟩
  rw [hr, hu]
  clear hr hu r u
  refine x_ifB_eq 22 rfl rfl (fun hn => absurd hn (fun z => z (inr_t hs4 (by decide)))) (fun h4 => ?_)
  refine run_ok 3 (c' := (10, [(0, .ref 48), (1, .int (nI s)), (2, .int (nI f)), (3, .int (nI m))], [.int (nI 2), .int (nI 0), .int (nI f)], S)) rfl ?_
  refine x_callS [.int (nI f), .int (nI 0), .int (nI 2)] rfl cs_R_in.1 lk_7_115 cs_R_in.2.1 rfl rfl (Nat.le_of_ble_eq_true rfl) (by decide) cs_R_in.2.2 (m_in S (nI f) (nI 0) (nI 2)) ?_
  rintro r u ⟨hr, hu⟩
  rw [hr, hu]
  clear hr hu r u
  refine x_top (v' := b2 (0 ≤ nI f ∧ nI f < nI 3)) (b2_c (and_congr Iff.rfl (le_nI (n := 2) (by decide)))) ?_
  refine x_ifB_eq 22 rfl rfl (fun hn => absurd hn (fun z => z (inr_t hf3 (by decide)))) (fun h13 => ?_)
  refine run_ok 2 (c' := (19, [(0, .ref 48), (1, .int (nI s)), (2, .int (nI f)), (3, .int (nI m))], [.int (nI 60), .int (nI m)], S)) rfl ?_
  refine x_icmpN_le 25 rfl rfl (by omega) (by omega) (fun h19 => ?_) (fun hn => absurd hm60 hn)
  refine run_ok 1 (c' := (26, [(0, .ref 48), (1, .int (nI s)), (2, .int (nI f)), (3, .int (nI m))], [.int (nI m)], S)) rfl ?_
  refine x_ifN_ge 35 rfl rfl (by omega) (fun h26 => ?_) (fun hn => absurd (Nat.zero_le _) hn)
  refine run_ok 4 (c' := (41, [(0, .ref 48), (1, .int (nI s)), (2, .int (nI f)), (3, .int (nI m))], [.int (nI 1), .int (nI s), .ref 78], S)) rfl ?_
  refine x_zsN rfl rfl (by decide) (by omega) rfl ?_
  refine run_ok 4 (c' := (48, [(0, .ref 48), (1, .int (nI s)), (2, .int (nI f)), (3, .int (nI m))], [.int (nI f), .int (nI s), .ref 79], (pt S 78 s (nI 1)))) rfl ?_
  refine x_isN rfl rfl (by decide) (by omega) ?_
  refine run_ok 4 (c' := (55, [(0, .ref 48), (1, .int (nI s)), (2, .int (nI f)), (3, .int (nI m))], [.int (nI m), .int (nI s), .ref 80], (pt (pt S 78 s (nI 1)) 79 s (nI f)))) rfl ?_
  refine x_isN rfl rfl (by decide) (by omega) ?_
  refine run_ok 2 (c' := (59, [(0, .ref 48), (1, .int (nI s)), (2, .int (nI f)), (3, .int (nI m)), (4, .int (nI 0))], [], (pt (pt (pt S 78 s (nI 1)) 79 s (nI f)) 80 s (nI m)))) rfl ?_
  exact H 0 (by omega) _ ⟨rfl, rfl, rfl⟩ (fun j hj => absurd hj (Nat.not_lt_zero _)) (fun _ _ => rfl) (((fr.rf.pt (by decide)).pt (by decide)).pt (by decide)) rfl

set_option maxHeartbeats 2000000 in
theorem m_lose_bad (S : ST) (x : Int32) (hbad : ¬ (0 ≤ x ∧ x < nI 4)) : EX me_R_lose 2 [.ref 48, .int x] S (fun r u => r = some (.int ((-2))) ∧ u = S) := by
  refine EX.of mok_R_lose (Nat.le_of_ble_eq_true rfl) ?_
  refine run_ok 1 (c' := (1, [(0, .ref 48), (1, .int x)], [.int x], S)) rfl ?_
  refine x_callS [.int x] rfl cs_R_isSheet.1 lk_7_172 cs_R_isSheet.2.1 rfl rfl (Nat.le_of_ble_eq_true rfl) (by decide) cs_R_isSheet.2.2 (m_isSheet S (x)) ?_
  rintro r u ⟨hr, hu⟩
  rw [hr, hu]
  clear hr hu r u
  refine x_ifB_ne 10 rfl rfl (fun h4 => ?_) (fun h4 => ?_)
  · exact absurd h4 hbad
  · refine run_ok 1 (c' := (9, [(0, .ref 48), (1, .int x)], [.int (-2)], S)) rfl ?_
    exact x_ret (r := some (.int (-2))) rfl rfl trivial ⟨rfl, rfl⟩ rfl

set_option maxHeartbeats 2000000 in
theorem m_lose_null (S : ST) (s : Nat) (hs4 : s < 4) (lo fm sz : Nat) (hH : HM s lo fm sz S) (hlo : lo = 1) : EX me_R_lose 2 [.ref 48, .int (nI s)] S (fun r u => r = some (.int ((-10) - nI 1)) ∧ u = pt S 48 42 (nI 1)) := by
  refine EX.of mok_R_lose (Nat.le_of_ble_eq_true rfl) ?_
  obtain ⟨k1, k2, k3, hl1, hf2, hs60⟩ := id hH
  refine run_ok 1 (c' := (1, [(0, .ref 48), (1, .int (nI s))], [.int (nI s)], S)) rfl ?_
  refine x_callS [.int (nI s)] rfl cs_R_isSheet.1 lk_7_172 cs_R_isSheet.2.1 rfl rfl (Nat.le_of_ble_eq_true rfl) (by decide) cs_R_isSheet.2.2 (m_isSheet S (nI s)) ?_
  rintro r u ⟨hr, hu⟩
  rw [hr, hu]
  clear hr hu r u
  refine x_ifB_ne 10 rfl rfl (fun h4 => ?_) (fun hn => absurd (inr_t hs4 (by decide)) hn)
  refine run_ok 3 (c' := (15, [(0, .ref 48), (1, .int (nI s))], [.int (nI s), .ref 78], S)) rfl ?_
  refine x_zaN (nI (1 - lo)) rfl rfl (by decide) (by omega) k1 ?_
  refine x_ifN_ne 25 rfl rfl (by omega) (fun hn => absurd (by omega) hn) (fun h16 => ?_)
  refine run_ok 2 (c' := (21, [(0, .ref 48), (1, .int (nI s))], [.int (nI 1), .ref 48], S)) rfl ?_
  refine x_callV [.int (nI 1)] rfl cv_R_meets.1 lk_7_175 cv_R_meets.2.1 cv_R_meets.2.2.1 rfl cv_R_meets.2.2.2.1 rfl rfl (Nat.le_of_ble_eq_true rfl) (by decide) cv_R_meets.2.2.2.2 (m_meets S 1) ?_
  rintro r z ⟨hr, hu⟩
  rw [hr, hu]
  clear hr hu r z
  exact x_ret (r := some (.int ((-10) - nI 1))) rfl rfl trivial ⟨rfl, rfl⟩ rfl

set_option maxHeartbeats 2000000 in
theorem m_lose_ok (S : ST) (s : Nat) (hs4 : s < 4) (lo fm sz : Nat) (hH : HM s lo fm sz S) (hlo : lo = 0) : EX me_R_lose 2 [.ref 48, .int (nI s)] S (fun r u => r = some (.int (nI sz)) ∧ u = pt S 78 s (nI 0)) := by
  refine EX.of mok_R_lose (Nat.le_of_ble_eq_true rfl) ?_
  obtain ⟨k1, k2, k3, hl1, hf2, hs60⟩ := id hH
  refine run_ok 1 (c' := (1, [(0, .ref 48), (1, .int (nI s))], [.int (nI s)], S)) rfl ?_
  refine x_callS [.int (nI s)] rfl cs_R_isSheet.1 lk_7_172 cs_R_isSheet.2.1 rfl rfl (Nat.le_of_ble_eq_true rfl) (by decide) cs_R_isSheet.2.2 (m_isSheet S (nI s)) ?_
  rintro r u ⟨hr, hu⟩
  rw [hr, hu]
  clear hr hu r u
  refine x_ifB_ne 10 rfl rfl (fun h4 => ?_) (fun hn => absurd (inr_t hs4 (by decide)) hn)
  refine run_ok 3 (c' := (15, [(0, .ref 48), (1, .int (nI s))], [.int (nI s), .ref 78], S)) rfl ?_
  refine x_zaN (nI (1 - lo)) rfl rfl (by decide) (by omega) k1 ?_
  refine x_ifN_ne 25 rfl rfl (by omega) (fun h16 => ?_) (fun hn => absurd hn (by omega))
  refine run_ok 4 (c' := (31, [(0, .ref 48), (1, .int (nI s))], [.int (nI 0), .int (nI s), .ref 78], S)) rfl ?_
  refine x_zsN rfl rfl (by decide) (by omega) rfl ?_
  refine run_ok 3 (c' := (37, [(0, .ref 48), (1, .int (nI s))], [.int (nI s), .ref 80], (pt S 78 s (nI 0)))) rfl ?_
  refine x_iaN (nI sz) rfl rfl (by decide) (by omega) k3 ?_
  exact x_ret (r := some (.int (nI sz))) rfl rfl trivial ⟨rfl, rfl⟩ rfl

set_option maxHeartbeats 2000000 in
theorem m_lacks (S : ST) (s : Nat) (hs4 : s < 4) (lo fm sz : Nat) (hH : HM s lo fm sz S) (f : Nat) (hf3 : f < 3) (x : Int32) : EX me_R_lacks 1 [.ref 48, .int (nI s), .int (nI f), .int x] S (fun r u => r = some (.int (nI (fnd lo fm sz f x))) ∧ u = S) := by
  refine EX.of mok_R_lacks (Nat.le_of_ble_eq_true rfl) ?_
  obtain ⟨k1, k2, k3, hl1, hf2, hs60⟩ := id hH
  refine run_ok 3 (c' := (5, [(0, .ref 48), (1, .int (nI s)), (2, .int (nI f)), (3, .int x)], [.int (nI s), .ref 78], S)) rfl ?_
  refine x_zaN (nI (1 - lo)) rfl rfl (by decide) (by omega) k1 ?_
  refine x_ifN_ne 13 rfl rfl (by omega) (fun h6 => ?_) (fun h6 => ?_)
  · refine run_ok 3 (c' := (18, [(0, .ref 48), (1, .int (nI s)), (2, .int (nI f)), (3, .int x)], [.int (nI s), .ref 79], S)) rfl ?_
    refine x_iaN (nI fm) rfl rfl (by decide) (by omega) k2 ?_
    refine run_ok 1 (c' := (20, [(0, .ref 48), (1, .int (nI s)), (2, .int (nI f)), (3, .int x)], [.int (nI f), .int (nI fm)], S)) rfl ?_
    refine x_icmpN_eq 27 rfl rfl (by omega) (by omega) (fun h20 => ?_) (fun h20 => ?_)
    · refine run_ok 5 (c' := (34, [(0, .ref 48), (1, .int (nI s)), (2, .int (nI f)), (3, .int x)], [.int (nI s), .ref 80, .int (nI 0), .int x], S)) rfl ?_
      refine x_iaN (nI sz) rfl rfl (by decide) (by omega) k3 ?_
      refine run_ok 2 (c' := (37, [(0, .ref 48), (1, .int (nI s)), (2, .int (nI f)), (3, .int x)], [.int ((nI sz) - (nI 1)), .int (nI 0), .int x], S)) rfl ?_
      refine x_callS [.int x, .int (nI 0), .int ((nI sz) - (nI 1))] rfl cs_R_in.1 lk_7_115 cs_R_in.2.1 rfl rfl (Nat.le_of_ble_eq_true rfl) (by decide) cs_R_in.2.2 (m_in S (x) (nI 0) ((nI sz) - (nI 1))) ?_
      rintro r u ⟨hr, hu⟩
      rw [hr, hu]
      clear hr hu r u
      refine x_ifB_eq 47 rfl rfl (fun h40 => ?_) (fun h40 => ?_)
      · refine run_ok 1 (c' := (48, [(0, .ref 48), (1, .int (nI s)), (2, .int (nI f)), (3, .int x)], [.int (nI 2)], S)) rfl ?_
        exact x_ret (r := some (.int (nI 2))) rfl rfl trivial ⟨congrArg (fun z => some (Value.int (nI z))) ((if_neg (by omega)).trans ((if_neg (fun z => z h20)).trans (if_neg (fun z => h40 ((le_pred (by omega)).mpr z))))).symm, rfl⟩ rfl
      · refine run_ok 2 (c' := (48, [(0, .ref 48), (1, .int (nI s)), (2, .int (nI f)), (3, .int x)], [.int (nI 0)], S)) rfl ?_
        exact x_ret (r := some (.int (nI 0))) rfl rfl trivial ⟨congrArg (fun z => some (Value.int (nI z))) ((if_neg (by omega)).trans ((if_neg (fun z => z h20)).trans (if_pos ((le_pred (by omega)).mp h40)))).symm, rfl⟩ rfl
    · refine run_ok 2 (c' := (48, [(0, .ref 48), (1, .int (nI s)), (2, .int (nI f)), (3, .int x)], [.int (nI 3)], S)) rfl ?_
      exact x_ret (r := some (.int (nI 3))) rfl rfl trivial ⟨congrArg (fun z => some (Value.int (nI z))) ((if_neg (by omega)).trans (if_pos h20)).symm, rfl⟩ rfl
  · refine run_ok 2 (c' := (48, [(0, .ref 48), (1, .int (nI s)), (2, .int (nI f)), (3, .int x)], [.int (nI 1)], S)) rfl ?_
    exact x_ret (r := some (.int (nI 1))) rfl rfl trivial ⟨congrArg (fun z => some (Value.int (nI z))) (if_pos (by omega)).symm, rfl⟩ rfl

theorem cvt_0 {fm : Nat} (v : Int32) (h : fm = 0) : v.toInt8.toInt32 = cvt fm v := by unfold cvt; rw [if_pos h]
theorem cvt_1 {fm : Nat} (v : Int32) (h0 : ¬ fm = 0) (h : fm = 1) : v.toInt16.toInt32 = cvt fm v := by unfold cvt; rw [if_neg h0, if_pos h]
theorem cvt_2 {fm : Nat} (v : Int32) (h0 : ¬ fm = 0) (h : ¬ fm = 1) : v = cvt fm v := by unfold cvt; rw [if_neg h0, if_neg h]
set_option maxHeartbeats 2000000 in
theorem m_keep (S : ST) (s : Nat) (hs4 : s < 4) (lo fm sz : Nat) (hH : HM s lo fm sz S) (i : Nat) (hi : i < 60) (v : Int32) : EX me_R_keep 0 [.ref 48, .int (nI s), .int (nI i), .int v] S (fun r u => r = none ∧ u = pt S 81 (60 * s + i) (cvt fm v)) := by
  refine EX.of mok_R_keep (Nat.le_of_ble_eq_true rfl) ?_
  obtain ⟨k1, k2, k3, hl1, hf2, hs60⟩ := id hH
  refine run_ok 5 (c' := (8, [(0, .ref 48), (1, .int (nI s)), (2, .int (nI i)), (3, .int v)], [.int ((nI 60) * (nI s)), .ref 81], S)) rfl ?_
  refine x_top (v' := nI (60 * s)) (pk_mul _ _) ?_
  refine run_ok 2 (c' := (10, [(0, .ref 48), (1, .int (nI s)), (2, .int (nI i)), (3, .int v)], [.int ((nI (60 * s)) + (nI i)), .ref 81], S)) rfl ?_
  refine x_top (v' := nI ((60 * s) + i)) (nI_add _ _) ?_
  refine run_ok 3 (c' := (15, [(0, .ref 48), (1, .int (nI s)), (2, .int (nI i)), (3, .int v)], [.int (nI s), .ref 79, .int (nI ((60 * s) + i)), .ref 81], S)) rfl ?_
  refine x_iaN (nI fm) rfl rfl (by decide) (by omega) k2 ?_
  refine x_ifN_ne 24 rfl rfl (by omega) (fun h16 => ?_) (fun h16 => ?_)
  · refine run_ok 3 (c' := (29, [(0, .ref 48), (1, .int (nI s)), (2, .int (nI i)), (3, .int v)], [.int (nI s), .ref 79, .int (nI ((60 * s) + i)), .ref 81], S)) rfl ?_
    refine x_iaN (nI fm) rfl rfl (by decide) (by omega) k2 ?_
    refine run_ok 1 (c' := (31, [(0, .ref 48), (1, .int (nI s)), (2, .int (nI i)), (3, .int v)], [.int (nI 1), .int (nI fm), .int (nI ((60 * s) + i)), .ref 81], S)) rfl ?_
    refine x_icmpN_ne 39 rfl rfl (by omega) (by omega) (fun h31 => ?_) (fun h31 => ?_)
    · refine run_ok 1 (c' := (40, [(0, .ref 48), (1, .int (nI s)), (2, .int (nI i)), (3, .int v)], [.int v, .int (nI ((60 * s) + i)), .ref 81], S)) rfl ?_
      refine x_isN rfl rfl (by decide) (by omega) ?_
      exact x_ret (r := none) rfl rfl trivial ⟨rfl, congrArg (fun z => pt S 81 (60 * s + i) z) (cvt_2 v h16 h31)⟩ rfl
    · refine run_ok 3 (c' := (40, [(0, .ref 48), (1, .int (nI s)), (2, .int (nI i)), (3, .int v)], [.int v.toInt16.toInt32, .int (nI ((60 * s) + i)), .ref 81], S)) rfl ?_
      refine x_isN rfl rfl (by decide) (by omega) ?_
      exact x_ret (r := none) rfl rfl trivial ⟨rfl, congrArg (fun z => pt S 81 (60 * s + i) z) (cvt_1 v h16 h31)⟩ rfl
  · refine run_ok 3 (c' := (40, [(0, .ref 48), (1, .int (nI s)), (2, .int (nI i)), (3, .int v)], [.int v.toInt8.toInt32, .int (nI ((60 * s) + i)), .ref 81], S)) rfl ?_
    refine x_isN rfl rfl (by decide) (by omega) ?_
    exact x_ret (r := none) rfl rfl trivial ⟨rfl, congrArg (fun z => pt S 81 (60 * s + i) z) (cvt_0 v h16)⟩ rfl

set_option maxHeartbeats 2000000 in
theorem m_put_bad (S : ST) (x y z v : Int32) (hbad : ¬ ((0 ≤ x ∧ x < nI 4) ∧ (0 ≤ y ∧ y < nI 3))) : EX me_R_put 2 [.ref 48, .int x, .int y, .int z, .int v] S (fun r u => r = some (.int ((-2))) ∧ u = S) := by
  refine EX.of mok_R_put (Nat.le_of_ble_eq_true rfl) ?_
  refine run_ok 1 (c' := (1, [(0, .ref 48), (1, .int x), (2, .int y), (3, .int z), (4, .int v)], [.int x], S)) rfl ?_
  refine x_callS [.int x] rfl cs_R_isSheet.1 lk_7_172 cs_R_isSheet.2.1 rfl rfl (Nat.le_of_ble_eq_true rfl) (by decide) cs_R_isSheet.2.2 (m_isSheet S (x)) ?_
  rintro r u ⟨hr, hu⟩
  rw [hr, hu]
  clear hr hu r u
  refine x_ifB_eq 16 rfl rfl (fun h4 => ?_) (fun h4 => ?_)
  · refine run_ok 1 (c' := (18, [(0, .ref 48), (1, .int x), (2, .int y), (3, .int z), (4, .int v)], [.int (-2)], S)) rfl ?_
    exact x_ret (r := some (.int (-2))) rfl rfl trivial ⟨rfl, rfl⟩ rfl
  · refine run_ok 3 (c' := (10, [(0, .ref 48), (1, .int x), (2, .int y), (3, .int z), (4, .int v)], [.int (nI 2), .int (nI 0), .int y], S)) rfl ?_
    refine x_callS [.int y, .int (nI 0), .int (nI 2)] rfl cs_R_in.1 lk_7_115 cs_R_in.2.1 rfl rfl (Nat.le_of_ble_eq_true rfl) (by decide) cs_R_in.2.2 (m_in S (y) (nI 0) (nI 2)) ?_
    rintro r u ⟨hr, hu⟩
    rw [hr, hu]
    clear hr hu r u
    refine x_top (v' := b2 (0 ≤ y ∧ y < nI 3)) (b2_c (and_congr Iff.rfl (le_nI (n := 2) (by decide)))) ?_
    refine x_ifB_ne 19 rfl rfl (fun h13 => ?_) (fun h13 => ?_)
    · exact absurd ⟨h4, h13⟩ hbad
    · refine run_ok 1 (c' := (18, [(0, .ref 48), (1, .int x), (2, .int y), (3, .int z), (4, .int v)], [.int (-2)], S)) rfl ?_
      exact x_ret (r := some (.int (-2))) rfl rfl trivial ⟨rfl, rfl⟩ rfl

set_option maxHeartbeats 2000000 in
theorem m_get_bad (S : ST) (x y z : Int32) (hbad : ¬ ((0 ≤ x ∧ x < nI 4) ∧ (0 ≤ y ∧ y < nI 3))) : EX me_R_get 2 [.ref 48, .int x, .int y, .int z] S (fun r u => r = some (.int ((-2147483648))) ∧ u = S) := by
  refine EX.of mok_R_get (Nat.le_of_ble_eq_true rfl) ?_
  refine run_ok 1 (c' := (1, [(0, .ref 48), (1, .int x), (2, .int y), (3, .int z)], [.int x], S)) rfl ?_
  refine x_callS [.int x] rfl cs_R_isSheet.1 lk_7_172 cs_R_isSheet.2.1 rfl rfl (Nat.le_of_ble_eq_true rfl) (by decide) cs_R_isSheet.2.2 (m_isSheet S (x)) ?_
  rintro r u ⟨hr, hu⟩
  rw [hr, hu]
  clear hr hu r u
  refine x_ifB_eq 16 rfl rfl (fun h4 => ?_) (fun h4 => ?_)
  · refine run_ok 1 (c' := (19, [(0, .ref 48), (1, .int x), (2, .int y), (3, .int z)], [.int (-2147483648)], S)) rfl ?_
    exact x_ret (r := some (.int (-2147483648))) rfl rfl trivial ⟨rfl, rfl⟩ rfl
  · refine run_ok 3 (c' := (10, [(0, .ref 48), (1, .int x), (2, .int y), (3, .int z)], [.int (nI 2), .int (nI 0), .int y], S)) rfl ?_
    refine x_callS [.int y, .int (nI 0), .int (nI 2)] rfl cs_R_in.1 lk_7_115 cs_R_in.2.1 rfl rfl (Nat.le_of_ble_eq_true rfl) (by decide) cs_R_in.2.2 (m_in S (y) (nI 0) (nI 2)) ?_
    rintro r u ⟨hr, hu⟩
    rw [hr, hu]
    clear hr hu r u
    refine x_top (v' := b2 (0 ≤ y ∧ y < nI 3)) (b2_c (and_congr Iff.rfl (le_nI (n := 2) (by decide)))) ?_
    refine x_ifB_ne 20 rfl rfl (fun h13 => ?_) (fun h13 => ?_)
    · exact absurd ⟨h4, h13⟩ hbad
    · refine run_ok 1 (c' := (19, [(0, .ref 48), (1, .int x), (2, .int y), (3, .int z)], [.int (-2147483648)], S)) rfl ?_
      exact x_ret (r := some (.int (-2147483648))) rfl rfl trivial ⟨rfl, rfl⟩ rfl

set_option maxHeartbeats 2000000 in
theorem m_put_f (S : ST) (s : Nat) (hs4 : s < 4) (lo fm sz : Nat) (hH : HM s lo fm sz S) (f : Nat) (x v : Int32) (hf3 : f < 3) (hfn : ¬ fnd lo fm sz f x = 0) : EX me_R_put 2 [.ref 48, .int (nI s), .int (nI f), .int x, .int v] S (fun r u => r = some (.int ((-10) - nI (fnd lo fm sz f x))) ∧ u = pt S 48 42 (nI (fnd lo fm sz f x))) := by
  refine EX.of mok_R_put (Nat.le_of_ble_eq_true rfl) ?_
  have q3 := fnd_le lo fm sz f x
  refine run_ok 1 (c' := (1, [(0, .ref 48), (1, .int (nI s)), (2, .int (nI f)), (3, .int x), (4, .int v)], [.int (nI s)], S)) rfl ?_
  refine x_callS [.int (nI s)] rfl cs_R_isSheet.1 lk_7_172 cs_R_isSheet.2.1 rfl rfl (Nat.le_of_ble_eq_true rfl) (by decide) cs_R_isSheet.2.2 (m_isSheet S (nI s)) ?_
  rintro r u ⟨hr, hu⟩
  rw [hr, hu]
  clear hr hu r u
  refine x_ifB_eq 16 rfl rfl (fun hn => absurd hn (fun z => z (inr_t hs4 (by decide)))) (fun h4 => ?_)
  refine run_ok 3 (c' := (10, [(0, .ref 48), (1, .int (nI s)), (2, .int (nI f)), (3, .int x), (4, .int v)], [.int (nI 2), .int (nI 0), .int (nI f)], S)) rfl ?_
  refine x_callS [.int (nI f), .int (nI 0), .int (nI 2)] rfl cs_R_in.1 lk_7_115 cs_R_in.2.1 rfl rfl (Nat.le_of_ble_eq_true rfl) (by decide) cs_R_in.2.2 (m_in S (nI f) (nI 0) (nI 2)) ?_
  rintro r u ⟨hr, hu⟩
  rw [hr, hu]
  clear hr hu r u
  refine x_top (v' := b2 (0 ≤ nI f ∧ nI f < nI 3)) (b2_c (and_congr Iff.rfl (le_nI (n := 2) (by decide)))) ?_
  refine x_ifB_ne 19 rfl rfl (fun h13 => ?_) (fun hn => absurd (inr_t hf3 (by decide)) hn)
  refine run_ok 4 (c' := (23, [(0, .ref 48), (1, .int (nI s)), (2, .int (nI f)), (3, .int x), (4, .int v)], [.int x, .int (nI f), .int (nI s), .ref 48], S)) rfl ?_
  refine x_callV [.int (nI s), .int (nI f), .int x] rfl cv_R_lacks.1 lk_7_325 cv_R_lacks.2.1 cv_R_lacks.2.2.1 rfl cv_R_lacks.2.2.2.1 rfl rfl (Nat.le_of_ble_eq_true rfl) (by decide) cv_R_lacks.2.2.2.2 (m_lacks S s hs4 lo fm sz hH f hf3 (x)) ?_
  rintro r z ⟨hr, hu⟩
  rw [hr, hu]
  clear hr hu r z
  refine run_ok 2 (c' := (30, [(0, .ref 48), (1, .int (nI s)), (2, .int (nI f)), (3, .int x), (4, .int v), (5, .int (nI (fnd lo fm sz f x)))], [.int (nI (fnd lo fm sz f x))], S)) rfl ?_
  refine x_ifN_le 40 rfl rfl (by omega) (fun hn => absurd hn (by omega)) (fun h30 => ?_)
  refine run_ok 2 (c' := (36, [(0, .ref 48), (1, .int (nI s)), (2, .int (nI f)), (3, .int x), (4, .int v), (5, .int (nI (fnd lo fm sz f x)))], [.int (nI (fnd lo fm sz f x)), .ref 48], S)) rfl ?_
  refine x_callV [.int (nI (fnd lo fm sz f x))] rfl cv_R_meets.1 lk_7_175 cv_R_meets.2.1 cv_R_meets.2.2.1 rfl cv_R_meets.2.2.2.1 rfl rfl (Nat.le_of_ble_eq_true rfl) (by decide) cv_R_meets.2.2.2.2 (m_meets S (fnd lo fm sz f x)) ?_
  rintro r z ⟨hr, hu⟩
  rw [hr, hu]
  clear hr hu r z
  exact x_ret (r := some (.int ((-10) - nI (fnd lo fm sz f x)))) rfl rfl trivial ⟨rfl, rfl⟩ rfl

set_option maxHeartbeats 2000000 in
theorem m_put_ok (S : ST) (s : Nat) (hs4 : s < 4) (lo fm sz : Nat) (hH : HM s lo fm sz S) (f i : Nat) (v : Int32) (hf3 : f < 3) (hi : i < 60) (hfn : fnd lo fm sz f (nI i) = 0) : EX me_R_put 2 [.ref 48, .int (nI s), .int (nI f), .int (nI i), .int v] S (fun r u => r = some (.int 1) ∧ u = pt S 81 (60 * s + i) (cvt fm v)) := by
  refine EX.of mok_R_put (Nat.le_of_ble_eq_true rfl) ?_
  have q3 := fnd_le lo fm sz f (nI i)
  refine run_ok 1 (c' := (1, [(0, .ref 48), (1, .int (nI s)), (2, .int (nI f)), (3, .int (nI i)), (4, .int v)], [.int (nI s)], S)) rfl ?_
  refine x_callS [.int (nI s)] rfl cs_R_isSheet.1 lk_7_172 cs_R_isSheet.2.1 rfl rfl (Nat.le_of_ble_eq_true rfl) (by decide) cs_R_isSheet.2.2 (m_isSheet S (nI s)) ?_
  rintro r u ⟨hr, hu⟩
  rw [hr, hu]
  clear hr hu r u
  refine x_ifB_eq 16 rfl rfl (fun hn => absurd hn (fun z => z (inr_t hs4 (by decide)))) (fun h4 => ?_)
  refine run_ok 3 (c' := (10, [(0, .ref 48), (1, .int (nI s)), (2, .int (nI f)), (3, .int (nI i)), (4, .int v)], [.int (nI 2), .int (nI 0), .int (nI f)], S)) rfl ?_
  refine x_callS [.int (nI f), .int (nI 0), .int (nI 2)] rfl cs_R_in.1 lk_7_115 cs_R_in.2.1 rfl rfl (Nat.le_of_ble_eq_true rfl) (by decide) cs_R_in.2.2 (m_in S (nI f) (nI 0) (nI 2)) ?_
  rintro r u ⟨hr, hu⟩
  rw [hr, hu]
  clear hr hu r u
  refine x_top (v' := b2 (0 ≤ nI f ∧ nI f < nI 3)) (b2_c (and_congr Iff.rfl (le_nI (n := 2) (by decide)))) ?_
  refine x_ifB_ne 19 rfl rfl (fun h13 => ?_) (fun hn => absurd (inr_t hf3 (by decide)) hn)
  refine run_ok 4 (c' := (23, [(0, .ref 48), (1, .int (nI s)), (2, .int (nI f)), (3, .int (nI i)), (4, .int v)], [.int (nI i), .int (nI f), .int (nI s), .ref 48], S)) rfl ?_
  refine x_callV [.int (nI s), .int (nI f), .int (nI i)] rfl cv_R_lacks.1 lk_7_325 cv_R_lacks.2.1 cv_R_lacks.2.2.1 rfl cv_R_lacks.2.2.2.1 rfl rfl (Nat.le_of_ble_eq_true rfl) (by decide) cv_R_lacks.2.2.2.2 (m_lacks S s hs4 lo fm sz hH f hf3 (nI i)) ?_
  rintro r z ⟨hr, hu⟩
  rw [hr, hu]
  clear hr hu r z
  refine run_ok 2 (c' := (30, [(0, .ref 48), (1, .int (nI s)), (2, .int (nI f)), (3, .int (nI i)), (4, .int v), (5, .int (nI (fnd lo fm sz f (nI i))))], [.int (nI (fnd lo fm sz f (nI i)))], S)) rfl ?_
  refine x_ifN_le 40 rfl rfl (by omega) (fun h30 => ?_) (fun hn => absurd (by omega) hn)
  refine run_ok 4 (c' := (45, [(0, .ref 48), (1, .int (nI s)), (2, .int (nI f)), (3, .int (nI i)), (4, .int v), (5, .int (nI (fnd lo fm sz f (nI i))))], [.int v, .int (nI i), .int (nI s), .ref 48], S)) rfl ?_
  refine x_callV [.int (nI s), .int (nI i), .int v] rfl cv_R_keep.1 lk_7_328 cv_R_keep.2.1 cv_R_keep.2.2.1 rfl cv_R_keep.2.2.2.1 rfl rfl (Nat.le_of_ble_eq_true rfl) (by decide) cv_R_keep.2.2.2.2 (m_keep S s hs4 lo fm sz hH i hi (v)) ?_
  rintro r z ⟨hr, hu⟩
  rw [hr, hu]
  clear hr hu r z
  refine run_ok 1 (c' := (49, [(0, .ref 48), (1, .int (nI s)), (2, .int (nI f)), (3, .int (nI i)), (4, .int v), (5, .int (nI (fnd lo fm sz f (nI i))))], [.int (nI 1)], (pt S 81 (60 * s + i) (cvt fm v)))) rfl ?_
  exact x_ret (r := some (.int (nI 1))) rfl rfl trivial ⟨rfl, rfl⟩ rfl

set_option maxHeartbeats 2000000 in
theorem m_get_f (S : ST) (s : Nat) (hs4 : s < 4) (lo fm sz : Nat) (hH : HM s lo fm sz S) (f : Nat) (x : Int32) (hf3 : f < 3) (hfn : ¬ fnd lo fm sz f x = 0) : EX me_R_get 2 [.ref 48, .int (nI s), .int (nI f), .int x] S (fun r u => r = some (.int (-2147483648)) ∧ u = pt S 48 42 (nI (fnd lo fm sz f x))) := by
  refine EX.of mok_R_get (Nat.le_of_ble_eq_true rfl) ?_
  have q3 := fnd_le lo fm sz f x
  refine run_ok 1 (c' := (1, [(0, .ref 48), (1, .int (nI s)), (2, .int (nI f)), (3, .int x)], [.int (nI s)], S)) rfl ?_
  refine x_callS [.int (nI s)] rfl cs_R_isSheet.1 lk_7_172 cs_R_isSheet.2.1 rfl rfl (Nat.le_of_ble_eq_true rfl) (by decide) cs_R_isSheet.2.2 (m_isSheet S (nI s)) ?_
  rintro r u ⟨hr, hu⟩
  rw [hr, hu]
  clear hr hu r u
  refine x_ifB_eq 16 rfl rfl (fun hn => absurd hn (fun z => z (inr_t hs4 (by decide)))) (fun h4 => ?_)
  refine run_ok 3 (c' := (10, [(0, .ref 48), (1, .int (nI s)), (2, .int (nI f)), (3, .int x)], [.int (nI 2), .int (nI 0), .int (nI f)], S)) rfl ?_
  refine x_callS [.int (nI f), .int (nI 0), .int (nI 2)] rfl cs_R_in.1 lk_7_115 cs_R_in.2.1 rfl rfl (Nat.le_of_ble_eq_true rfl) (by decide) cs_R_in.2.2 (m_in S (nI f) (nI 0) (nI 2)) ?_
  rintro r u ⟨hr, hu⟩
  rw [hr, hu]
  clear hr hu r u
  refine x_top (v' := b2 (0 ≤ nI f ∧ nI f < nI 3)) (b2_c (and_congr Iff.rfl (le_nI (n := 2) (by decide)))) ?_
  refine x_ifB_ne 20 rfl rfl (fun h13 => ?_) (fun hn => absurd (inr_t hf3 (by decide)) hn)
  refine run_ok 4 (c' := (24, [(0, .ref 48), (1, .int (nI s)), (2, .int (nI f)), (3, .int x)], [.int x, .int (nI f), .int (nI s), .ref 48], S)) rfl ?_
  refine x_callV [.int (nI s), .int (nI f), .int x] rfl cv_R_lacks.1 lk_7_325 cv_R_lacks.2.1 cv_R_lacks.2.2.1 rfl cv_R_lacks.2.2.2.1 rfl rfl (Nat.le_of_ble_eq_true rfl) (by decide) cv_R_lacks.2.2.2.2 (m_lacks S s hs4 lo fm sz hH f hf3 (x)) ?_
  rintro r z ⟨hr, hu⟩
  rw [hr, hu]
  clear hr hu r z
  refine run_ok 2 (c' := (31, [(0, .ref 48), (1, .int (nI s)), (2, .int (nI f)), (3, .int x), (4, .int (nI (fnd lo fm sz f x)))], [.int (nI (fnd lo fm sz f x))], S)) rfl ?_
  refine x_ifN_le 44 rfl rfl (by omega) (fun hn => absurd hn (by omega)) (fun h31 => ?_)
  refine run_ok 4 (c' := (43, [(0, .ref 48), (1, .int (nI s)), (2, .int (nI f)), (3, .int x), (4, .int (nI (fnd lo fm sz f x)))], [.int (-2147483648)], (pt S 48 42 (nI (fnd lo fm sz f x))))) rfl ?_
  exact x_ret (r := some (.int (-2147483648))) rfl rfl trivial ⟨rfl, rfl⟩ rfl

set_option maxHeartbeats 2000000 in
theorem m_get_ok (S : ST) (s : Nat) (hs4 : s < 4) (lo fm sz : Nat) (hH : HM s lo fm sz S) (f i : Nat) (hf3 : f < 3) (hi : i < 60) (hfn : fnd lo fm sz f (nI i) = 0) : EX me_R_get 2 [.ref 48, .int (nI s), .int (nI f), .int (nI i)] S (fun r u => r = some (.int (S.1 81 (60 * s + i))) ∧ u = S) := by
  refine EX.of mok_R_get (Nat.le_of_ble_eq_true rfl) ?_
  have q3 := fnd_le lo fm sz f (nI i)
  refine run_ok 1 (c' := (1, [(0, .ref 48), (1, .int (nI s)), (2, .int (nI f)), (3, .int (nI i))], [.int (nI s)], S)) rfl ?_
  refine x_callS [.int (nI s)] rfl cs_R_isSheet.1 lk_7_172 cs_R_isSheet.2.1 rfl rfl (Nat.le_of_ble_eq_true rfl) (by decide) cs_R_isSheet.2.2 (m_isSheet S (nI s)) ?_
  rintro r u ⟨hr, hu⟩
  rw [hr, hu]
  clear hr hu r u
  refine x_ifB_eq 16 rfl rfl (fun hn => absurd hn (fun z => z (inr_t hs4 (by decide)))) (fun h4 => ?_)
  refine run_ok 3 (c' := (10, [(0, .ref 48), (1, .int (nI s)), (2, .int (nI f)), (3, .int (nI i))], [.int (nI 2), .int (nI 0), .int (nI f)], S)) rfl ?_
  refine x_callS [.int (nI f), .int (nI 0), .int (nI 2)] rfl cs_R_in.1 lk_7_115 cs_R_in.2.1 rfl rfl (Nat.le_of_ble_eq_true rfl) (by decide) cs_R_in.2.2 (m_in S (nI f) (nI 0) (nI 2)) ?_
  rintro r u ⟨hr, hu⟩
  rw [hr, hu]
  clear hr hu r u
  refine x_top (v' := b2 (0 ≤ nI f ∧ nI f < nI 3)) (b2_c (and_congr Iff.rfl (le_nI (n := 2) (by decide)))) ?_
  refine x_ifB_ne 20 rfl rfl (fun h13 => ?_) (fun hn => absurd (inr_t hf3 (by decide)) hn)
  refine run_ok 4 (c' := (24, [(0, .ref 48), (1, .int (nI s)), (2, .int (nI f)), (3, .int (nI i))], [.int (nI i), .int (nI f), .int (nI s), .ref 48], S)) rfl ?_
  refine x_callV [.int (nI s), .int (nI f), .int (nI i)] rfl cv_R_lacks.1 lk_7_325 cv_R_lacks.2.1 cv_R_lacks.2.2.1 rfl cv_R_lacks.2.2.2.1 rfl rfl (Nat.le_of_ble_eq_true rfl) (by decide) cv_R_lacks.2.2.2.2 (m_lacks S s hs4 lo fm sz hH f hf3 (nI i)) ?_
  rintro r z ⟨hr, hu⟩
  rw [hr, hu]
  clear hr hu r z
  refine run_ok 2 (c' := (31, [(0, .ref 48), (1, .int (nI s)), (2, .int (nI f)), (3, .int (nI i)), (4, .int (nI (fnd lo fm sz f (nI i))))], [.int (nI (fnd lo fm sz f (nI i)))], S)) rfl ?_
  refine x_ifN_le 44 rfl rfl (by omega) (fun h31 => ?_) (fun hn => absurd (by omega) hn)
  refine run_ok 5 (c' := (52, [(0, .ref 48), (1, .int (nI s)), (2, .int (nI f)), (3, .int (nI i)), (4, .int (nI (fnd lo fm sz f (nI i))))], [.int ((nI 60) * (nI s)), .ref 81], S)) rfl ?_
  refine x_top (v' := nI (60 * s)) (pk_mul _ _) ?_
  refine run_ok 2 (c' := (54, [(0, .ref 48), (1, .int (nI s)), (2, .int (nI f)), (3, .int (nI i)), (4, .int (nI (fnd lo fm sz f (nI i))))], [.int ((nI (60 * s)) + (nI i)), .ref 81], S)) rfl ?_
  refine x_top (v' := nI ((60 * s) + i)) (nI_add _ _) ?_
  refine x_iaN (S.1 81 ((60 * s) + i)) rfl rfl (by decide) (by omega) rfl ?_
  exact x_ret (r := some (.int (S.1 81 ((60 * s) + i)))) rfl rfl trivial ⟨rfl, rfl⟩ rfl

theorem lg_leN {x y : Nat} (hx : x < 2 ^ 63) (hy : y < 2 ^ 63) : lg_cmp (lN x) (lN y) ≤ 0 ↔ x ≤ y := by
  unfold lg_cmp
  by_cases h : y < x
  · rw [if_pos ((pk_lLT hy hx).mpr h)]
    exact ⟨fun z => absurd z (by decide), fun z => absurd h (by omega)⟩
  · rw [if_neg (fun z => h ((pk_lLT hy hx).mp z))]
    by_cases e : x = y
    · rw [if_pos (by rw [e])]
      exact ⟨fun _ => by omega, fun _ => by decide⟩
    · rw [if_neg (fun z => e ((pk_lEQ hx hy).mp z))]
      exact ⟨fun _ => by omega, fun _ => by decide⟩
theorem lg_gtN {x y : Nat} (hx : x < 2 ^ 63) (hy : y < 2 ^ 63) : lg_cmp (lN x) (lN y) > 0 ↔ y < x := by
  have h := lg_leN hx hy
  rw [← Nat.not_le, ← h]
  exact ⟨fun z w => absurd z (Int32.not_lt.mpr w), fun z => Int32.not_le.mp z⟩
theorem has_of {sz : Nat} {a n : Int32} (hs : sz ≤ 60) (ha : ¬ a < 0) (hn : ¬ n < 0) (h : ¬ lg_cmp (a.toInt64 + n.toInt64) (nI sz).toInt64 > 0) : hasI sz a n := by
  obtain ⟨A, hA, eA⟩ := nI_of ha
  obtain ⟨N, hN, eN⟩ := nI_of hn
  rw [eA, eN] at h ⊢
  rw [nI_l (by omega), nI_l (by omega), nI_l (by omega), lN_add, lg_gtN (by omega) (by omega)] at h
  exact hasI_t (by omega) hs
set_option maxHeartbeats 2000000 in
theorem m_copy_bad (S : ST) (x a y b c : Int32) (hbad : ¬ ((0 ≤ x ∧ x < nI 4) ∧ (0 ≤ y ∧ y < nI 4))) : EX me_R_copy 2 [.ref 48, .int x, .int a, .int y, .int b, .int c] S (fun r u => r = some (.int (-2)) ∧ u = S) := by
  refine EX.of mok_R_copy (Nat.le_of_ble_eq_true rfl) ?_
  refine run_ok 1 (c' := (1, [(0, .ref 48), (1, .int x), (2, .int a), (3, .int y), (4, .int b), (5, .int c)], [.int x], S)) rfl ?_
  refine x_callS [.int x] rfl cs_R_isSheet.1 lk_7_172 cs_R_isSheet.2.1 rfl rfl (Nat.le_of_ble_eq_true rfl) (by decide) cs_R_isSheet.2.2 (m_isSheet S (x)) ?_
  rintro r u ⟨hr, hu⟩
  rw [hr, hu]
  clear hr hu r u
  refine x_ifB_eq 14 rfl rfl (fun h4 => ?_) (fun h4 => ?_)
  · refine run_ok 1 (c' := (16, [(0, .ref 48), (1, .int x), (2, .int a), (3, .int y), (4, .int b), (5, .int c)], [.int (-2)], S)) rfl ?_
    exact x_ret (r := some (.int (-2))) rfl rfl trivial ⟨rfl, rfl⟩ rfl
  · refine run_ok 1 (c' := (8, [(0, .ref 48), (1, .int x), (2, .int a), (3, .int y), (4, .int b), (5, .int c)], [.int y], S)) rfl ?_
    refine x_callS [.int y] rfl cs_R_isSheet.1 lk_7_172 cs_R_isSheet.2.1 rfl rfl (Nat.le_of_ble_eq_true rfl) (by decide) cs_R_isSheet.2.2 (m_isSheet S (y)) ?_
    rintro r u ⟨hr, hu⟩
    rw [hr, hu]
    clear hr hu r u
    refine x_ifB_ne 17 rfl rfl (fun h11 => ?_) (fun h11 => ?_)
    · exact absurd ⟨h4, h11⟩ hbad
    · refine run_ok 1 (c' := (16, [(0, .ref 48), (1, .int x), (2, .int a), (3, .int y), (4, .int b), (5, .int c)], [.int (-2)], S)) rfl ?_
      exact x_ret (r := some (.int (-2))) rfl rfl trivial ⟨rfl, rfl⟩ rfl

set_option maxHeartbeats 2000000 in
theorem m_copy_null (S : ST) (s : Nat) (hs4 : s < 4) (lo fm sz : Nat) (hH : HM s lo fm sz S) (t : Nat) (ht4 : t < 4) (lo2 fm2 sz2 : Nat) (hH2 : HM t lo2 fm2 sz2 S) (a b c : Int32) (hnl : ¬ (lo = 0 ∧ lo2 = 0)) : EX me_R_copy 2 [.ref 48, .int (nI s), .int a, .int (nI t), .int b, .int c] S (fun r u => r = some (.int ((-10) - nI 1)) ∧ u = pt S 48 42 (nI 1)) := by
  refine EX.of mok_R_copy (Nat.le_of_ble_eq_true rfl) ?_
  obtain ⟨k1, k2, k3, hl1, hf2, hs60⟩ := id hH
  obtain ⟨j1, j2, j3, jl1, jf2, js60⟩ := id hH2
  refine run_ok 1 (c' := (1, [(0, .ref 48), (1, .int (nI s)), (2, .int a), (3, .int (nI t)), (4, .int b), (5, .int c)], [.int (nI s)], S)) rfl ?_
  refine x_callS [.int (nI s)] rfl cs_R_isSheet.1 lk_7_172 cs_R_isSheet.2.1 rfl rfl (Nat.le_of_ble_eq_true rfl) (by decide) cs_R_isSheet.2.2 (m_isSheet S (nI s)) ?_
  rintro r u ⟨hr, hu⟩
  rw [hr, hu]
  clear hr hu r u
  refine x_ifB_eq 14 rfl rfl (fun hn => absurd hn (fun z => z (inr_t hs4 (by decide)))) (fun h4 => ?_)
  refine run_ok 1 (c' := (8, [(0, .ref 48), (1, .int (nI s)), (2, .int a), (3, .int (nI t)), (4, .int b), (5, .int c)], [.int (nI t)], S)) rfl ?_
  refine x_callS [.int (nI t)] rfl cs_R_isSheet.1 lk_7_172 cs_R_isSheet.2.1 rfl rfl (Nat.le_of_ble_eq_true rfl) (by decide) cs_R_isSheet.2.2 (m_isSheet S (nI t)) ?_
  rintro r u ⟨hr, hu⟩
  rw [hr, hu]
  clear hr hu r u
  refine x_ifB_ne 17 rfl rfl (fun h11 => ?_) (fun hn => absurd (inr_t ht4 (by decide)) hn)
  refine run_ok 3 (c' := (22, [(0, .ref 48), (1, .int (nI s)), (2, .int a), (3, .int (nI t)), (4, .int b), (5, .int c)], [.int (nI s), .ref 78], S)) rfl ?_
  refine x_zaN (nI (1 - lo)) rfl rfl (by decide) (by omega) k1 ?_
  refine x_ifN_eq 35 rfl rfl (by omega) (fun h23 => ?_) (fun h23 => ?_)
  · refine run_ok 2 (c' := (37, [(0, .ref 48), (1, .int (nI s)), (2, .int a), (3, .int (nI t)), (4, .int b), (5, .int c)], [.int (nI 1), .ref 48], S)) rfl ?_
    refine x_callV [.int (nI 1)] rfl cv_R_meets.1 lk_7_175 cv_R_meets.2.1 cv_R_meets.2.2.1 rfl cv_R_meets.2.2.2.1 rfl rfl (Nat.le_of_ble_eq_true rfl) (by decide) cv_R_meets.2.2.2.2 (m_meets S 1) ?_
    rintro r z ⟨hr, hu⟩
    rw [hr, hu]
    clear hr hu r z
    exact x_ret (r := some (.int ((-10) - nI 1))) rfl rfl trivial ⟨rfl, rfl⟩ rfl
  · refine run_ok 3 (c' := (31, [(0, .ref 48), (1, .int (nI s)), (2, .int a), (3, .int (nI t)), (4, .int b), (5, .int c)], [.int (nI t), .ref 78], S)) rfl ?_
    refine x_zaN (nI (1 - lo2)) rfl rfl (by decide) (by omega) j1 ?_
    refine x_ifN_ne 41 rfl rfl (by omega) (fun h32 => ?_) (fun h32 => ?_)
    · exact absurd ⟨by omega, by omega⟩ hnl
    · refine run_ok 2 (c' := (37, [(0, .ref 48), (1, .int (nI s)), (2, .int a), (3, .int (nI t)), (4, .int b), (5, .int c)], [.int (nI 1), .ref 48], S)) rfl ?_
      refine x_callV [.int (nI 1)] rfl cv_R_meets.1 lk_7_175 cv_R_meets.2.1 cv_R_meets.2.2.1 rfl cv_R_meets.2.2.2.1 rfl rfl (Nat.le_of_ble_eq_true rfl) (by decide) cv_R_meets.2.2.2.2 (m_meets S 1) ?_
      rintro r z ⟨hr, hu⟩
      rw [hr, hu]
      clear hr hu r z
      exact x_ret (r := some (.int ((-10) - nI 1))) rfl rfl trivial ⟨rfl, rfl⟩ rfl

set_option maxHeartbeats 2000000 in
theorem m_copy_store (S : ST) (s : Nat) (hs4 : s < 4) (lo fm sz : Nat) (hH : HM s lo fm sz S) (t : Nat) (ht4 : t < 4) (lo2 fm2 sz2 : Nat) (hH2 : HM t lo2 fm2 sz2 S) (a b c : Int32) (hz1 : lo = 0) (hz2 : lo2 = 0) (hst : ¬ fm = fm2) : EX me_R_copy 2 [.ref 48, .int (nI s), .int a, .int (nI t), .int b, .int c] S (fun r u => r = some (.int ((-10) - nI 4)) ∧ u = pt S 48 42 (nI 4)) := by
  refine EX.of mok_R_copy (Nat.le_of_ble_eq_true rfl) ?_
  obtain ⟨k1, k2, k3, hl1, hf2, hs60⟩ := id hH
  obtain ⟨j1, j2, j3, jl1, jf2, js60⟩ := id hH2
  refine run_ok 1 (c' := (1, [(0, .ref 48), (1, .int (nI s)), (2, .int a), (3, .int (nI t)), (4, .int b), (5, .int c)], [.int (nI s)], S)) rfl ?_
  refine x_callS [.int (nI s)] rfl cs_R_isSheet.1 lk_7_172 cs_R_isSheet.2.1 rfl rfl (Nat.le_of_ble_eq_true rfl) (by decide) cs_R_isSheet.2.2 (m_isSheet S (nI s)) ?_
  rintro r u ⟨hr, hu⟩
  rw [hr, hu]
  clear hr hu r u
  refine x_ifB_eq 14 rfl rfl (fun hn => absurd hn (fun z => z (inr_t hs4 (by decide)))) (fun h4 => ?_)
  refine run_ok 1 (c' := (8, [(0, .ref 48), (1, .int (nI s)), (2, .int a), (3, .int (nI t)), (4, .int b), (5, .int c)], [.int (nI t)], S)) rfl ?_
  refine x_callS [.int (nI t)] rfl cs_R_isSheet.1 lk_7_172 cs_R_isSheet.2.1 rfl rfl (Nat.le_of_ble_eq_true rfl) (by decide) cs_R_isSheet.2.2 (m_isSheet S (nI t)) ?_
  rintro r u ⟨hr, hu⟩
  rw [hr, hu]
  clear hr hu r u
  refine x_ifB_ne 17 rfl rfl (fun h11 => ?_) (fun hn => absurd (inr_t ht4 (by decide)) hn)
  refine run_ok 3 (c' := (22, [(0, .ref 48), (1, .int (nI s)), (2, .int a), (3, .int (nI t)), (4, .int b), (5, .int c)], [.int (nI s), .ref 78], S)) rfl ?_
  refine x_zaN (nI (1 - lo)) rfl rfl (by decide) (by omega) k1 ?_
  refine x_ifN_eq 35 rfl rfl (by omega) (fun hn => absurd hn (by omega)) (fun h23 => ?_)
  refine run_ok 3 (c' := (31, [(0, .ref 48), (1, .int (nI s)), (2, .int a), (3, .int (nI t)), (4, .int b), (5, .int c)], [.int (nI t), .ref 78], S)) rfl ?_
  refine x_zaN (nI (1 - lo2)) rfl rfl (by decide) (by omega) j1 ?_
  refine x_ifN_ne 41 rfl rfl (by omega) (fun h32 => ?_) (fun hn => absurd hn (by omega))
  refine run_ok 3 (c' := (46, [(0, .ref 48), (1, .int (nI s)), (2, .int a), (3, .int (nI t)), (4, .int b), (5, .int c)], [.int (nI s), .ref 79], S)) rfl ?_
  refine x_iaN (nI fm) rfl rfl (by decide) (by omega) k2 ?_
  refine run_ok 3 (c' := (52, [(0, .ref 48), (1, .int (nI s)), (2, .int a), (3, .int (nI t)), (4, .int b), (5, .int c)], [.int (nI t), .ref 79, .int (nI fm)], S)) rfl ?_
  refine x_iaN (nI fm2) rfl rfl (by decide) (by omega) j2 ?_
  refine x_icmpN_eq 62 rfl rfl (by omega) (by omega) (fun hn => absurd hn hst) (fun h53 => ?_)
  refine run_ok 2 (c' := (58, [(0, .ref 48), (1, .int (nI s)), (2, .int a), (3, .int (nI t)), (4, .int b), (5, .int c)], [.int (nI 4), .ref 48], S)) rfl ?_
  refine x_callV [.int (nI 4)] rfl cv_R_meets.1 lk_7_175 cv_R_meets.2.1 cv_R_meets.2.2.1 rfl cv_R_meets.2.2.2.1 rfl rfl (Nat.le_of_ble_eq_true rfl) (by decide) cv_R_meets.2.2.2.2 (m_meets S 4) ?_
  rintro r z ⟨hr, hu⟩
  rw [hr, hu]
  clear hr hu r z
  exact x_ret (r := some (.int ((-10) - nI 4))) rfl rfl trivial ⟨rfl, rfl⟩ rfl

set_option maxHeartbeats 2000000 in
theorem m_copy_index (S : ST) (s : Nat) (hs4 : s < 4) (lo fm sz : Nat) (hH : HM s lo fm sz S) (t : Nat) (ht4 : t < 4) (lo2 fm2 sz2 : Nat) (hH2 : HM t lo2 fm2 sz2 S) (a b c : Int32) (hz1 : lo = 0) (hz2 : lo2 = 0) (hst : fm = fm2) (hix : ¬ (hasI sz a c ∧ hasI sz2 b c)) : EX me_R_copy 2 [.ref 48, .int (nI s), .int a, .int (nI t), .int b, .int c] S (fun r u => r = some (.int ((-10) - nI 2)) ∧ u = pt S 48 42 (nI 2)) := by
  refine EX.of mok_R_copy (Nat.le_of_ble_eq_true rfl) ?_
  obtain ⟨k1, k2, k3, hl1, hf2, hs60⟩ := id hH
  obtain ⟨j1, j2, j3, jl1, jf2, js60⟩ := id hH2
  refine run_ok 1 (c' := (1, [(0, .ref 48), (1, .int (nI s)), (2, .int a), (3, .int (nI t)), (4, .int b), (5, .int c)], [.int (nI s)], S)) rfl ?_
  refine x_callS [.int (nI s)] rfl cs_R_isSheet.1 lk_7_172 cs_R_isSheet.2.1 rfl rfl (Nat.le_of_ble_eq_true rfl) (by decide) cs_R_isSheet.2.2 (m_isSheet S (nI s)) ?_
  rintro r u ⟨hr, hu⟩
  rw [hr, hu]
  clear hr hu r u
  refine x_ifB_eq 14 rfl rfl (fun hn => absurd hn (fun z => z (inr_t hs4 (by decide)))) (fun h4 => ?_)
  refine run_ok 1 (c' := (8, [(0, .ref 48), (1, .int (nI s)), (2, .int a), (3, .int (nI t)), (4, .int b), (5, .int c)], [.int (nI t)], S)) rfl ?_
  refine x_callS [.int (nI t)] rfl cs_R_isSheet.1 lk_7_172 cs_R_isSheet.2.1 rfl rfl (Nat.le_of_ble_eq_true rfl) (by decide) cs_R_isSheet.2.2 (m_isSheet S (nI t)) ?_
  rintro r u ⟨hr, hu⟩
  rw [hr, hu]
  clear hr hu r u
  refine x_ifB_ne 17 rfl rfl (fun h11 => ?_) (fun hn => absurd (inr_t ht4 (by decide)) hn)
  refine run_ok 3 (c' := (22, [(0, .ref 48), (1, .int (nI s)), (2, .int a), (3, .int (nI t)), (4, .int b), (5, .int c)], [.int (nI s), .ref 78], S)) rfl ?_
  refine x_zaN (nI (1 - lo)) rfl rfl (by decide) (by omega) k1 ?_
  refine x_ifN_eq 35 rfl rfl (by omega) (fun hn => absurd hn (by omega)) (fun h23 => ?_)
  refine run_ok 3 (c' := (31, [(0, .ref 48), (1, .int (nI s)), (2, .int a), (3, .int (nI t)), (4, .int b), (5, .int c)], [.int (nI t), .ref 78], S)) rfl ?_
  refine x_zaN (nI (1 - lo2)) rfl rfl (by decide) (by omega) j1 ?_
  refine x_ifN_ne 41 rfl rfl (by omega) (fun h32 => ?_) (fun hn => absurd hn (by omega))
  refine run_ok 3 (c' := (46, [(0, .ref 48), (1, .int (nI s)), (2, .int a), (3, .int (nI t)), (4, .int b), (5, .int c)], [.int (nI s), .ref 79], S)) rfl ?_
  refine x_iaN (nI fm) rfl rfl (by decide) (by omega) k2 ?_
  refine run_ok 3 (c' := (52, [(0, .ref 48), (1, .int (nI s)), (2, .int a), (3, .int (nI t)), (4, .int b), (5, .int c)], [.int (nI t), .ref 79, .int (nI fm)], S)) rfl ?_
  refine x_iaN (nI fm2) rfl rfl (by decide) (by omega) j2 ?_
  refine x_icmpN_eq 62 rfl rfl (by omega) (by omega) (fun h53 => ?_) (fun hn => absurd hst hn)
  refine run_ok 1 (c' := (63, [(0, .ref 48), (1, .int (nI s)), (2, .int a), (3, .int (nI t)), (4, .int b), (5, .int c)], [.int a], S)) rfl ?_
  refine x_if_lt 111 rfl rfl (fun h63 => ?_) (fun h63 => ?_)
  · refine run_ok 2 (c' := (113, [(0, .ref 48), (1, .int (nI s)), (2, .int a), (3, .int (nI t)), (4, .int b), (5, .int c)], [.int (nI 2), .ref 48], S)) rfl ?_
    refine x_callV [.int (nI 2)] rfl cv_R_meets.1 lk_7_175 cv_R_meets.2.1 cv_R_meets.2.2.1 rfl cv_R_meets.2.2.2.1 rfl rfl (Nat.le_of_ble_eq_true rfl) (by decide) cv_R_meets.2.2.2.2 (m_meets S 2) ?_
    rintro r z ⟨hr, hu⟩
    rw [hr, hu]
    clear hr hu r z
    exact x_ret (r := some (.int ((-10) - nI 2))) rfl rfl trivial ⟨rfl, rfl⟩ rfl
  · refine run_ok 1 (c' := (68, [(0, .ref 48), (1, .int (nI s)), (2, .int a), (3, .int (nI t)), (4, .int b), (5, .int c)], [.int b], S)) rfl ?_
    refine x_if_lt 111 rfl rfl (fun h68 => ?_) (fun h68 => ?_)
    · refine run_ok 2 (c' := (113, [(0, .ref 48), (1, .int (nI s)), (2, .int a), (3, .int (nI t)), (4, .int b), (5, .int c)], [.int (nI 2), .ref 48], S)) rfl ?_
      refine x_callV [.int (nI 2)] rfl cv_R_meets.1 lk_7_175 cv_R_meets.2.1 cv_R_meets.2.2.1 rfl cv_R_meets.2.2.2.1 rfl rfl (Nat.le_of_ble_eq_true rfl) (by decide) cv_R_meets.2.2.2.2 (m_meets S 2) ?_
      rintro r z ⟨hr, hu⟩
      rw [hr, hu]
      clear hr hu r z
      exact x_ret (r := some (.int ((-10) - nI 2))) rfl rfl trivial ⟨rfl, rfl⟩ rfl
    · refine run_ok 1 (c' := (73, [(0, .ref 48), (1, .int (nI s)), (2, .int a), (3, .int (nI t)), (4, .int b), (5, .int c)], [.int c], S)) rfl ?_
      refine x_if_lt 111 rfl rfl (fun h73 => ?_) (fun h73 => ?_)
      · refine run_ok 2 (c' := (113, [(0, .ref 48), (1, .int (nI s)), (2, .int a), (3, .int (nI t)), (4, .int b), (5, .int c)], [.int (nI 2), .ref 48], S)) rfl ?_
        refine x_callV [.int (nI 2)] rfl cv_R_meets.1 lk_7_175 cv_R_meets.2.1 cv_R_meets.2.2.1 rfl cv_R_meets.2.2.2.1 rfl rfl (Nat.le_of_ble_eq_true rfl) (by decide) cv_R_meets.2.2.2.2 (m_meets S 2) ?_
        rintro r z ⟨hr, hu⟩
        rw [hr, hu]
        clear hr hu r z
        exact x_ret (r := some (.int ((-10) - nI 2))) rfl rfl trivial ⟨rfl, rfl⟩ rfl
      · refine run_ok 8 (c' := (87, [(0, .ref 48), (1, .int (nI s)), (2, .int a), (3, .int (nI t)), (4, .int b), (5, .int c)], [.int (nI s), .ref 80, .long (a.toInt64 + c.toInt64)], S)) rfl ?_
        refine x_iaN (nI sz) rfl rfl (by decide) (by omega) k3 ?_
        refine run_ok 2 (c' := (90, [(0, .ref 48), (1, .int (nI s)), (2, .int a), (3, .int (nI t)), (4, .int b), (5, .int c)], [.int (lg_cmp (a.toInt64 + c.toInt64) ((nI sz).toInt64))], S)) rfl ?_
        refine x_if_gt 111 rfl rfl (fun h90 => ?_) (fun h90 => ?_)
        · refine run_ok 2 (c' := (113, [(0, .ref 48), (1, .int (nI s)), (2, .int a), (3, .int (nI t)), (4, .int b), (5, .int c)], [.int (nI 2), .ref 48], S)) rfl ?_
          refine x_callV [.int (nI 2)] rfl cv_R_meets.1 lk_7_175 cv_R_meets.2.1 cv_R_meets.2.2.1 rfl cv_R_meets.2.2.2.1 rfl rfl (Nat.le_of_ble_eq_true rfl) (by decide) cv_R_meets.2.2.2.2 (m_meets S 2) ?_
          rintro r z ⟨hr, hu⟩
          rw [hr, hu]
          clear hr hu r z
          exact x_ret (r := some (.int ((-10) - nI 2))) rfl rfl trivial ⟨rfl, rfl⟩ rfl
        · refine run_ok 8 (c' := (105, [(0, .ref 48), (1, .int (nI s)), (2, .int a), (3, .int (nI t)), (4, .int b), (5, .int c)], [.int (nI t), .ref 80, .long (b.toInt64 + c.toInt64)], S)) rfl ?_
          refine x_iaN (nI sz2) rfl rfl (by decide) (by omega) j3 ?_
          refine run_ok 2 (c' := (108, [(0, .ref 48), (1, .int (nI s)), (2, .int a), (3, .int (nI t)), (4, .int b), (5, .int c)], [.int (lg_cmp (b.toInt64 + c.toInt64) ((nI sz2).toInt64))], S)) rfl ?_
          refine x_if_le 117 rfl rfl (fun h108 => ?_) (fun h108 => ?_)
          · exact absurd ⟨has_of hs60 h63 h73 h90, has_of js60 h68 h73 (fun z => absurd h108 (Int32.not_le.mpr z))⟩ hix
          · refine run_ok 2 (c' := (113, [(0, .ref 48), (1, .int (nI s)), (2, .int a), (3, .int (nI t)), (4, .int b), (5, .int c)], [.int (nI 2), .ref 48], S)) rfl ?_
            refine x_callV [.int (nI 2)] rfl cv_R_meets.1 lk_7_175 cv_R_meets.2.1 cv_R_meets.2.2.1 rfl cv_R_meets.2.2.2.1 rfl rfl (Nat.le_of_ble_eq_true rfl) (by decide) cv_R_meets.2.2.2.2 (m_meets S 2) ?_
            rintro r z ⟨hr, hu⟩
            rw [hr, hu]
            clear hr hu r z
            exact x_ret (r := some (.int ((-10) - nI 2))) rfl rfl trivial ⟨rfl, rfl⟩ rfl

set_option maxHeartbeats 2000000 in
theorem m_copy_ok (S : ST) (s : Nat) (hs4 : s < 4) (lo fm sz : Nat) (hH : HM s lo fm sz S) (t : Nat) (ht4 : t < 4) (lo2 fm2 sz2 : Nat) (hH2 : HM t lo2 fm2 sz2 S) (a b c : Nat) (hz1 : lo = 0) (hz2 : lo2 = 0) (hst : fm = fm2) (ha : a + c ≤ sz) (hb : b + c ≤ sz2) : EX me_R_copy 2 [.ref 48, .int (nI s), .int (nI a), .int (nI t), .int (nI b), .int (nI c)] S (fun r u => r = some (.int 1) ∧ (∀ j, j < 60 → u.1 81 (60 * t + j) = va_cpy (fun j => S.1 81 (60 * s + j)) (fun j => S.1 81 (60 * t + j)) a b c j) ∧ (∀ x, ¬ (60 * t ≤ x ∧ x < 60 * t + 60) → u.1 81 x = S.1 81 x) ∧ fr [81, 82] S u ∧ u.2 = S.2) := by
  refine EX.of mok_R_copy (Nat.le_of_ble_eq_true rfl) ?_
  obtain ⟨k1, k2, k3, hl1, hf2, hs60⟩ := id hH
  obtain ⟨j1, j2, j3, jl1, jf2, js60⟩ := id hH2
  have H2 : ∀ i, i ≤ c → ∀ v : ST, (∀ j, j < c → v.1 82 j = S.1 81 (60 * s + a + j)) → (∀ j, j < i → v.1 81 (60 * t + b + j) = S.1 81 (60 * s + a + j)) → (∀ x, ¬ (60 * t + b ≤ x ∧ x < 60 * t + b + i) → v.1 81 x = S.1 81 x) → fr [81, 82] S v → v.2 = S.2 → BX me_R_copy 2 none (fun r u => r = some (.int 1) ∧ (∀ j, j < 60 → u.1 81 (60 * t + j) = va_cpy (fun j => S.1 81 (60 * s + j)) (fun j => S.1 81 (60 * t + j)) a b c j) ∧ (∀ x, ¬ (60 * t ≤ x ∧ x < 60 * t + 60) → u.1 81 x = S.1 81 x) ∧ fr [81, 82] S u ∧ u.2 = S.2) (157, [(0, .ref 48), (1, .int (nI s)), (2, .int (nI a)), (3, .int (nI t)), (4, .int (nI b)), (5, .int (nI c)), (6, .int (nI i))], [], v) := by
    refine loop_up (P := fun i => ∀ v : ST, (∀ j, j < c → v.1 82 j = S.1 81 (60 * s + a + j)) → (∀ j, j < i → v.1 81 (60 * t + b + j) = S.1 81 (60 * s + a + j)) → (∀ x, ¬ (60 * t + b ≤ x ∧ x < 60 * t + b + i) → v.1 81 x = S.1 81 x) → fr [81, 82] S v → v.2 = S.2 → BX me_R_copy 2 none (fun r u => r = some (.int 1) ∧ (∀ j, j < 60 → u.1 81 (60 * t + j) = va_cpy (fun j => S.1 81 (60 * s + j)) (fun j => S.1 81 (60 * t + j)) a b c j) ∧ (∀ x, ¬ (60 * t ≤ x ∧ x < 60 * t + 60) → u.1 81 x = S.1 81 x) ∧ fr [81, 82] S u ∧ u.2 = S.2) (157, [(0, .ref 48), (1, .int (nI s)), (2, .int (nI a)), (3, .int (nI t)), (4, .int (nI b)), (5, .int (nI c)), (6, .int (nI i))], [], v)) c ?_ ?_
    · intro v a0 a1 a2 hf h2
      refine run_ok 2 (c' := (161, [(0, .ref 48), (1, .int (nI s)), (2, .int (nI a)), (3, .int (nI t)), (4, .int (nI b)), (5, .int (nI c)), (6, .int (nI c))], [.int (nI c), .int (nI c)], v)) rfl ?_
      refine x_icmpN_ge 192 rfl rfl (by omega) (by omega) (fun h161 => ?_) (fun hn => absurd (Nat.le_refl _) hn)
      refine run_ok 1 (c' := (193, [(0, .ref 48), (1, .int (nI s)), (2, .int (nI a)), (3, .int (nI t)), (4, .int (nI b)), (5, .int (nI c)), (6, .int (nI c))], [.int (nI 1)], v)) rfl ?_
      refine x_ret (r := some (.int (nI 1))) rfl rfl trivial ?_ rfl
      refine ⟨rfl, fun j hj => ?_, fun x hx => a2 x (by omega), hf, h2⟩
      unfold va_cpy
      by_cases e : b ≤ j ∧ j < b + c
      · rw [if_pos e]
        have := a1 (j - b) (by omega)
        rw [show 60 * t + b + (j - b) = 60 * t + j by omega, Nat.add_assoc] at this
        exact this
      · rw [if_neg e]
        exact a2 _ (by omega)
    · intro i hi ih v a0 a1 a2 hf h2
      refine run_ok 2 (c' := (161, [(0, .ref 48), (1, .int (nI s)), (2, .int (nI a)), (3, .int (nI t)), (4, .int (nI b)), (5, .int (nI c)), (6, .int (nI i))], [.int (nI c), .int (nI i)], v)) rfl ?_
      refine x_icmpN_ge 192 rfl rfl (by omega) (by omega) (fun hn => absurd hn (show ¬ c ≤ i by omega)) (fun h161 => ?_)
      refine run_ok 5 (c' := (172, [(0, .ref 48), (1, .int (nI s)), (2, .int (nI a)), (3, .int (nI t)), (4, .int (nI b)), (5, .int (nI c)), (6, .int (nI i))], [.int ((nI 60) * (nI t)), .ref 81], v)) rfl ?_
      refine x_top (v' := nI (60 * t)) (pk_mul _ _) ?_
      refine run_ok 2 (c' := (175, [(0, .ref 48), (1, .int (nI s)), (2, .int (nI a)), (3, .int (nI t)), (4, .int (nI b)), (5, .int (nI c)), (6, .int (nI i))], [.int ((nI (60 * t)) + (nI b)), .ref 81], v)) rfl ?_
      refine x_top (v' := nI ((60 * t) + b)) (nI_add _ _) ?_
      refine run_ok 2 (c' := (178, [(0, .ref 48), (1, .int (nI s)), (2, .int (nI a)), (3, .int (nI t)), (4, .int (nI b)), (5, .int (nI c)), (6, .int (nI i))], [.int ((nI ((60 * t) + b)) + (nI i)), .ref 81], v)) rfl ?_
      refine x_top (v' := nI (((60 * t) + b) + i)) (nI_add _ _) ?_
      refine run_ok 3 (c' := (184, [(0, .ref 48), (1, .int (nI s)), (2, .int (nI a)), (3, .int (nI t)), (4, .int (nI b)), (5, .int (nI c)), (6, .int (nI i))], [.int (nI i), .ref 82, .int (nI (((60 * t) + b) + i)), .ref 81], v)) rfl ?_
      refine x_iaN (S.1 81 (60 * s + a + i)) rfl rfl (by decide) (by omega) (a0 i hi) ?_
      refine x_isN rfl rfl (by decide) (by omega) ?_
      refine run_ok 1 (c' := (189, [(0, .ref 48), (1, .int (nI s)), (2, .int (nI a)), (3, .int (nI t)), (4, .int (nI b)), (5, .int (nI c)), (6, .int (nI i + nI 1))], [], (pt v 81 (((60 * t) + b) + i) (S.1 81 (60 * s + a + i))))) rfl ?_
      rw [nI_add i 1]
      refine run_ok 1 (c' := (157, [(0, .ref 48), (1, .int (nI s)), (2, .int (nI a)), (3, .int (nI t)), (4, .int (nI b)), (5, .int (nI c)), (6, .int (nI (i + 1)))], [], (pt v 81 (((60 * t) + b) + i) (S.1 81 (60 * s + a + i))))) rfl ?_
      refine ih _ a0 (fun j hj => ?_) (fun x hx => ?_) (hf.pt (by decide)) h2
      · show upd (v.1 81) (((60 * t) + b) + i) _ (60 * t + b + j) = _
        unfold upd
        split
        · rename_i e; rw [show j = i by omega]
        · exact a1 j (by omega)
      · show upd (v.1 81) (((60 * t) + b) + i) _ x = _
        unfold upd
        rw [if_neg (by omega)]
        exact a2 x (by omega)
  have H1 : ∀ i, i ≤ c → ∀ v : ST, (∀ j, j < i → v.1 82 j = S.1 81 (60 * s + a + j)) → fr [82] S v → v.2 = S.2 → BX me_R_copy 2 none (fun r u => r = some (.int 1) ∧ (∀ j, j < 60 → u.1 81 (60 * t + j) = va_cpy (fun j => S.1 81 (60 * s + j)) (fun j => S.1 81 (60 * t + j)) a b c j) ∧ (∀ x, ¬ (60 * t ≤ x ∧ x < 60 * t + 60) → u.1 81 x = S.1 81 x) ∧ fr [81, 82] S u ∧ u.2 = S.2) (120, [(0, .ref 48), (1, .int (nI s)), (2, .int (nI a)), (3, .int (nI t)), (4, .int (nI b)), (5, .int (nI c)), (6, .int (nI i))], [], v) := by
    refine loop_up (P := fun i => ∀ v : ST, (∀ j, j < i → v.1 82 j = S.1 81 (60 * s + a + j)) → fr [82] S v → v.2 = S.2 → BX me_R_copy 2 none (fun r u => r = some (.int 1) ∧ (∀ j, j < 60 → u.1 81 (60 * t + j) = va_cpy (fun j => S.1 81 (60 * s + j)) (fun j => S.1 81 (60 * t + j)) a b c j) ∧ (∀ x, ¬ (60 * t ≤ x ∧ x < 60 * t + 60) → u.1 81 x = S.1 81 x) ∧ fr [81, 82] S u ∧ u.2 = S.2) (120, [(0, .ref 48), (1, .int (nI s)), (2, .int (nI a)), (3, .int (nI t)), (4, .int (nI b)), (5, .int (nI c)), (6, .int (nI i))], [], v)) c ?_ ?_
    · intro v a0 hf h2
      refine run_ok 2 (c' := (124, [(0, .ref 48), (1, .int (nI s)), (2, .int (nI a)), (3, .int (nI t)), (4, .int (nI b)), (5, .int (nI c)), (6, .int (nI c))], [.int (nI c), .int (nI c)], v)) rfl ?_
      refine x_icmpN_ge 154 rfl rfl (by omega) (by omega) (fun h124 => ?_) (fun hn => absurd (Nat.le_refl _) hn)
      refine run_ok 2 (c' := (157, [(0, .ref 48), (1, .int (nI s)), (2, .int (nI a)), (3, .int (nI t)), (4, .int (nI b)), (5, .int (nI c)), (6, .int (nI 0))], [], v)) rfl ?_
      exact H2 0 (Nat.zero_le _) v a0 (fun j hj => absurd hj (Nat.not_lt_zero _)) (fun x _ => by rw [hf 81 (by decide)]) (hf.sub (by decide)) h2
    · intro i hi ih v a0 hf h2
      refine run_ok 2 (c' := (124, [(0, .ref 48), (1, .int (nI s)), (2, .int (nI a)), (3, .int (nI t)), (4, .int (nI b)), (5, .int (nI c)), (6, .int (nI i))], [.int (nI c), .int (nI i)], v)) rfl ?_
      refine x_icmpN_ge 154 rfl rfl (by omega) (by omega) (fun hn => absurd hn (show ¬ c ≤ i by omega)) (fun h124 => ?_)
      refine run_ok 8 (c' := (141, [(0, .ref 48), (1, .int (nI s)), (2, .int (nI a)), (3, .int (nI t)), (4, .int (nI b)), (5, .int (nI c)), (6, .int (nI i))], [.int ((nI 60) * (nI s)), .ref 81, .int (nI i), .ref 82], v)) rfl ?_
      refine x_top (v' := nI (60 * s)) (pk_mul _ _) ?_
      refine run_ok 2 (c' := (143, [(0, .ref 48), (1, .int (nI s)), (2, .int (nI a)), (3, .int (nI t)), (4, .int (nI b)), (5, .int (nI c)), (6, .int (nI i))], [.int ((nI (60 * s)) + (nI a)), .ref 81, .int (nI i), .ref 82], v)) rfl ?_
      refine x_top (v' := nI ((60 * s) + a)) (nI_add _ _) ?_
      refine run_ok 2 (c' := (146, [(0, .ref 48), (1, .int (nI s)), (2, .int (nI a)), (3, .int (nI t)), (4, .int (nI b)), (5, .int (nI c)), (6, .int (nI i))], [.int ((nI ((60 * s) + a)) + (nI i)), .ref 81, .int (nI i), .ref 82], v)) rfl ?_
      refine x_top (v' := nI (((60 * s) + a) + i)) (nI_add _ _) ?_
      refine x_iaN (S.1 81 (60 * s + a + i)) rfl rfl (by decide) (by omega) (by rw [hf 81 (by decide)]) ?_
      refine x_isN rfl rfl (by decide) (by omega) ?_
      refine run_ok 1 (c' := (151, [(0, .ref 48), (1, .int (nI s)), (2, .int (nI a)), (3, .int (nI t)), (4, .int (nI b)), (5, .int (nI c)), (6, .int (nI i + nI 1))], [], (pt v 82 i (S.1 81 (60 * s + a + i))))) rfl ?_
      rw [nI_add i 1]
      refine run_ok 1 (c' := (120, [(0, .ref 48), (1, .int (nI s)), (2, .int (nI a)), (3, .int (nI t)), (4, .int (nI b)), (5, .int (nI c)), (6, .int (nI (i + 1)))], [], (pt v 82 i (S.1 81 (60 * s + a + i))))) rfl ?_
      refine ih _ (fun j hj => ?_) (hf.pt (by decide)) h2
      show upd (v.1 82) i _ j = _
      unfold upd
      split
      · rename_i e; rw [e]
      · exact a0 j (by omega)
  refine run_ok 1 (c' := (1, [(0, .ref 48), (1, .int (nI s)), (2, .int (nI a)), (3, .int (nI t)), (4, .int (nI b)), (5, .int (nI c))], [.int (nI s)], S)) rfl ?_
  refine x_callS [.int (nI s)] rfl cs_R_isSheet.1 lk_7_172 cs_R_isSheet.2.1 rfl rfl (Nat.le_of_ble_eq_true rfl) (by decide) cs_R_isSheet.2.2 (m_isSheet S (nI s)) ?_
  rintro r u ⟨hr, hu⟩
  rw [hr, hu]
  clear hr hu r u
  refine x_ifB_eq 14 rfl rfl (fun hn => absurd hn (fun z => z (inr_t hs4 (by decide)))) (fun h4 => ?_)
  refine run_ok 1 (c' := (8, [(0, .ref 48), (1, .int (nI s)), (2, .int (nI a)), (3, .int (nI t)), (4, .int (nI b)), (5, .int (nI c))], [.int (nI t)], S)) rfl ?_
  refine x_callS [.int (nI t)] rfl cs_R_isSheet.1 lk_7_172 cs_R_isSheet.2.1 rfl rfl (Nat.le_of_ble_eq_true rfl) (by decide) cs_R_isSheet.2.2 (m_isSheet S (nI t)) ?_
  rintro r u ⟨hr, hu⟩
  rw [hr, hu]
  clear hr hu r u
  refine x_ifB_ne 17 rfl rfl (fun h11 => ?_) (fun hn => absurd (inr_t ht4 (by decide)) hn)
  refine run_ok 3 (c' := (22, [(0, .ref 48), (1, .int (nI s)), (2, .int (nI a)), (3, .int (nI t)), (4, .int (nI b)), (5, .int (nI c))], [.int (nI s), .ref 78], S)) rfl ?_
  refine x_zaN (nI (1 - lo)) rfl rfl (by decide) (by omega) k1 ?_
  refine x_ifN_eq 35 rfl rfl (by omega) (fun hn => absurd hn (by omega)) (fun h23 => ?_)
  refine run_ok 3 (c' := (31, [(0, .ref 48), (1, .int (nI s)), (2, .int (nI a)), (3, .int (nI t)), (4, .int (nI b)), (5, .int (nI c))], [.int (nI t), .ref 78], S)) rfl ?_
  refine x_zaN (nI (1 - lo2)) rfl rfl (by decide) (by omega) j1 ?_
  refine x_ifN_ne 41 rfl rfl (by omega) (fun h32 => ?_) (fun hn => absurd hn (by omega))
  refine run_ok 3 (c' := (46, [(0, .ref 48), (1, .int (nI s)), (2, .int (nI a)), (3, .int (nI t)), (4, .int (nI b)), (5, .int (nI c))], [.int (nI s), .ref 79], S)) rfl ?_
  refine x_iaN (nI fm) rfl rfl (by decide) (by omega) k2 ?_
  refine run_ok 3 (c' := (52, [(0, .ref 48), (1, .int (nI s)), (2, .int (nI a)), (3, .int (nI t)), (4, .int (nI b)), (5, .int (nI c))], [.int (nI t), .ref 79, .int (nI fm)], S)) rfl ?_
  refine x_iaN (nI fm2) rfl rfl (by decide) (by omega) j2 ?_
  refine x_icmpN_eq 62 rfl rfl (by omega) (by omega) (fun h53 => ?_) (fun hn => absurd hst hn)
  refine run_ok 1 (c' := (63, [(0, .ref 48), (1, .int (nI s)), (2, .int (nI a)), (3, .int (nI t)), (4, .int (nI b)), (5, .int (nI c))], [.int (nI a)], S)) rfl ?_
  refine x_ifN_lt 111 rfl rfl (by omega) (fun hn => absurd hn (Nat.not_lt_zero _)) (fun h63 => ?_)
  refine run_ok 1 (c' := (68, [(0, .ref 48), (1, .int (nI s)), (2, .int (nI a)), (3, .int (nI t)), (4, .int (nI b)), (5, .int (nI c))], [.int (nI b)], S)) rfl ?_
  refine x_ifN_lt 111 rfl rfl (by omega) (fun hn => absurd hn (Nat.not_lt_zero _)) (fun h68 => ?_)
  refine run_ok 1 (c' := (73, [(0, .ref 48), (1, .int (nI s)), (2, .int (nI a)), (3, .int (nI t)), (4, .int (nI b)), (5, .int (nI c))], [.int (nI c)], S)) rfl ?_
  refine x_ifN_lt 111 rfl rfl (by omega) (fun hn => absurd hn (Nat.not_lt_zero _)) (fun h73 => ?_)
  refine run_ok 2 (c' := (78, [(0, .ref 48), (1, .int (nI s)), (2, .int (nI a)), (3, .int (nI t)), (4, .int (nI b)), (5, .int (nI c))], [.long ((nI a).toInt64)], S)) rfl ?_
  refine x_topl (v' := lN a) (nI_l (by omega)) ?_
  refine run_ok 2 (c' := (81, [(0, .ref 48), (1, .int (nI s)), (2, .int (nI a)), (3, .int (nI t)), (4, .int (nI b)), (5, .int (nI c))], [.long ((nI c).toInt64), .long (lN a)], S)) rfl ?_
  refine x_topl (v' := lN c) (nI_l (by omega)) ?_
  refine run_ok 1 (c' := (82, [(0, .ref 48), (1, .int (nI s)), (2, .int (nI a)), (3, .int (nI t)), (4, .int (nI b)), (5, .int (nI c))], [.long ((lN a) + (lN c))], S)) rfl ?_
  refine x_topl (v' := lN (a + c)) (lN_add _ _) ?_
  refine run_ok 3 (c' := (87, [(0, .ref 48), (1, .int (nI s)), (2, .int (nI a)), (3, .int (nI t)), (4, .int (nI b)), (5, .int (nI c))], [.int (nI s), .ref 80, .long (lN (a + c))], S)) rfl ?_
  refine x_iaN (nI sz) rfl rfl (by decide) (by omega) k3 ?_
  refine run_ok 1 (c' := (89, [(0, .ref 48), (1, .int (nI s)), (2, .int (nI a)), (3, .int (nI t)), (4, .int (nI b)), (5, .int (nI c))], [.long ((nI sz).toInt64), .long (lN (a + c))], S)) rfl ?_
  refine x_topl (v' := lN sz) (nI_l (by omega)) ?_
  refine run_ok 1 (c' := (90, [(0, .ref 48), (1, .int (nI s)), (2, .int (nI a)), (3, .int (nI t)), (4, .int (nI b)), (5, .int (nI c))], [.int (lg_cmp (lN (a + c)) (lN sz))], S)) rfl ?_
  refine x_if_gt 111 rfl rfl (fun hn => absurd hn (fun z => absurd ((lg_gtN (by omega) (by omega)).mp z) (by omega))) (fun h90 => ?_)
  refine run_ok 2 (c' := (96, [(0, .ref 48), (1, .int (nI s)), (2, .int (nI a)), (3, .int (nI t)), (4, .int (nI b)), (5, .int (nI c))], [.long ((nI b).toInt64)], S)) rfl ?_
  refine x_topl (v' := lN b) (nI_l (by omega)) ?_
  refine run_ok 2 (c' := (99, [(0, .ref 48), (1, .int (nI s)), (2, .int (nI a)), (3, .int (nI t)), (4, .int (nI b)), (5, .int (nI c))], [.long ((nI c).toInt64), .long (lN b)], S)) rfl ?_
  refine x_topl (v' := lN c) (nI_l (by omega)) ?_
  refine run_ok 1 (c' := (100, [(0, .ref 48), (1, .int (nI s)), (2, .int (nI a)), (3, .int (nI t)), (4, .int (nI b)), (5, .int (nI c))], [.long ((lN b) + (lN c))], S)) rfl ?_
  refine x_topl (v' := lN (b + c)) (lN_add _ _) ?_
  refine run_ok 3 (c' := (105, [(0, .ref 48), (1, .int (nI s)), (2, .int (nI a)), (3, .int (nI t)), (4, .int (nI b)), (5, .int (nI c))], [.int (nI t), .ref 80, .long (lN (b + c))], S)) rfl ?_
  refine x_iaN (nI sz2) rfl rfl (by decide) (by omega) j3 ?_
  refine run_ok 1 (c' := (107, [(0, .ref 48), (1, .int (nI s)), (2, .int (nI a)), (3, .int (nI t)), (4, .int (nI b)), (5, .int (nI c))], [.long ((nI sz2).toInt64), .long (lN (b + c))], S)) rfl ?_
  refine x_topl (v' := lN sz2) (nI_l (by omega)) ?_
  refine run_ok 1 (c' := (108, [(0, .ref 48), (1, .int (nI s)), (2, .int (nI a)), (3, .int (nI t)), (4, .int (nI b)), (5, .int (nI c))], [.int (lg_cmp (lN (b + c)) (lN sz2))], S)) rfl ?_
  refine x_if_le 117 rfl rfl (fun h108 => ?_) (fun hn => absurd ((lg_leN (by omega) (by omega)).mpr (by omega)) hn)
  refine run_ok 2 (c' := (120, [(0, .ref 48), (1, .int (nI s)), (2, .int (nI a)), (3, .int (nI t)), (4, .int (nI b)), (5, .int (nI c)), (6, .int (nI 0))], [], S)) rfl ?_
  exact H1 0 (Nat.zero_le _) S (fun j hj => absurd hj (Nat.not_lt_zero _)) fr.rf rfl

set_option maxHeartbeats 2000000 in
theorem m_write_bad (S : ST) (T : TD) (n : Nat) (b : Nat → Nat) (n' : Nat) (b' : Nat → Nat) (hL : ML T n b n' b' S) (hto : tok T) (x y : Int32) (hbad : ¬ ((0 ≤ x ∧ x < nI (tnb T)) ∧ (0 ≤ y ∧ y < nI 4))) : EX me_R_write 8 [.ref 48, .int x, .int y] S (fun r u => r = some (.int ((-2))) ∧ QM S u) := by
  refine EX.of mok_R_write (Nat.le_of_ble_eq_true rfl) ?_
  refine run_ok 2 (c' := (2, [(0, .ref 48), (1, .int x), (2, .int y)], [.int x, .ref 48], S)) rfl ?_
  refine x_callV [.int x] rfl cv_R_isBoat.1 lk_7_163 cv_R_isBoat.2.1 cv_R_isBoat.2.2.1 rfl cv_R_isBoat.2.2.2.1 rfl rfl (Nat.le_of_ble_eq_true rfl) (by decide) cv_R_isBoat.2.2.2.2 (m_isBoat S T n b n' b' (hL.stay QM.rf) hto (x)) ?_
  rintro r u1 ⟨hr, hRu1, hqu1⟩
  rw [hr]
  clear hr r
  have hQu1 : QM S u1 := QM.rf.tr hqu1
  refine x_ifB_eq 15 rfl rfl (fun h5 => ?_) (fun h5 => ?_)
  · refine run_ok 1 (c' := (17, [(0, .ref 48), (1, .int x), (2, .int y)], [.int (-2)], u1)) rfl ?_
    exact x_ret (r := some (.int (-2))) rfl rfl trivial ⟨rfl, hQu1⟩ rfl
  · refine run_ok 1 (c' := (9, [(0, .ref 48), (1, .int x), (2, .int y)], [.int y], u1)) rfl ?_
    refine x_callS [.int y] rfl cs_R_isSheet.1 lk_7_172 cs_R_isSheet.2.1 rfl rfl (Nat.le_of_ble_eq_true rfl) (by decide) cs_R_isSheet.2.2 (m_isSheet u1 (y)) ?_
    rintro r u ⟨hr, hu⟩
    rw [hr, hu]
    clear hr hu r u
    refine x_ifB_ne 18 rfl rfl (fun h12 => ?_) (fun h12 => ?_)
    · exact absurd ⟨h5, h12⟩ hbad
    · refine run_ok 1 (c' := (17, [(0, .ref 48), (1, .int x), (2, .int y)], [.int (-2)], u1)) rfl ?_
      exact x_ret (r := some (.int (-2))) rfl rfl trivial ⟨rfl, hQu1⟩ rfl

theorem HM.keep {s lo fm sz : Nat} {u v : ST} {ks : List Nat} (h : HM s lo fm sz u) (hf : fr ks u v) (hk : 78 ∉ ks ∧ 79 ∉ ks ∧ 80 ∉ ks) : HM s lo fm sz v := ⟨by rw [hf 78 hk.1]; exact h.1, by rw [hf 79 hk.2.1]; exact h.2.1, by rw [hf 80 hk.2.2]; exact h.2.2.1, h.2.2.2⟩
set_option maxHeartbeats 2000000 in
theorem m_write_null (S : ST) (T : TD) (n : Nat) (b : Nat → Nat) (n' : Nat) (b' : Nat → Nat) (hL : ML T n b n' b' S) (hto : tok T) (k : Nat) (hk : k < tnb T) (s : Nat) (hs4 : s < 4) (lo fm sz : Nat) (hH : HM s lo fm sz S) (hlo : lo = 1) : EX me_R_write 8 [.ref 48, .int (nI k), .int (nI s)] S (fun r u => r = some (.int ((-10) - nI 1)) ∧ ∃ v, QM S v ∧ u = pt v 48 42 (nI 1)) := by
  refine EX.of mok_R_write (Nat.le_of_ble_eq_true rfl) ?_
  have n8 := hto.1
  obtain ⟨k1, k2, k3, hl1, hf2, hs60⟩ := id hH
  refine run_ok 2 (c' := (2, [(0, .ref 48), (1, .int (nI k)), (2, .int (nI s))], [.int (nI k), .ref 48], S)) rfl ?_
  refine x_callV [.int (nI k)] rfl cv_R_isBoat.1 lk_7_163 cv_R_isBoat.2.1 cv_R_isBoat.2.2.1 rfl cv_R_isBoat.2.2.2.1 rfl rfl (Nat.le_of_ble_eq_true rfl) (by decide) cv_R_isBoat.2.2.2.2 (m_isBoat S T n b n' b' (hL.stay QM.rf) hto (nI k)) ?_
  rintro r u1 ⟨hr, hRu1, hqu1⟩
  rw [hr]
  clear hr r
  have hQu1 : QM S u1 := QM.rf.tr hqu1
  refine x_ifB_eq 15 rfl rfl (fun hn => absurd hn (fun z => z (inr_t hk (by omega)))) (fun h5 => ?_)
  refine run_ok 1 (c' := (9, [(0, .ref 48), (1, .int (nI k)), (2, .int (nI s))], [.int (nI s)], u1)) rfl ?_
  refine x_callS [.int (nI s)] rfl cs_R_isSheet.1 lk_7_172 cs_R_isSheet.2.1 rfl rfl (Nat.le_of_ble_eq_true rfl) (by decide) cs_R_isSheet.2.2 (m_isSheet u1 (nI s)) ?_
  rintro r u ⟨hr, hu⟩
  rw [hr, hu]
  clear hr hu r u
  refine x_ifB_ne 18 rfl rfl (fun h12 => ?_) (fun hn => absurd (inr_t hs4 (by decide)) hn)
  refine run_ok 3 (c' := (23, [(0, .ref 48), (1, .int (nI k)), (2, .int (nI s))], [.int (nI s), .ref 78], u1)) rfl ?_
  refine x_zaN (nI (1 - lo)) rfl rfl (by decide) (by omega) (by rw [hQu1.1 78 (by decide)]; exact k1) ?_
  refine x_ifN_ne 33 rfl rfl (by omega) (fun hn => absurd (by omega) hn) (fun h24 => ?_)
  refine run_ok 2 (c' := (29, [(0, .ref 48), (1, .int (nI k)), (2, .int (nI s))], [.int (nI 1), .ref 48], u1)) rfl ?_
  refine x_callV [.int (nI 1)] rfl cv_R_meets.1 lk_7_175 cv_R_meets.2.1 cv_R_meets.2.2.1 rfl cv_R_meets.2.2.2.1 rfl rfl (Nat.le_of_ble_eq_true rfl) (by decide) cv_R_meets.2.2.2.2 (m_meets u1 1) ?_
  rintro r z ⟨hr, hu⟩
  rw [hr, hu]
  clear hr hu r z
  exact x_ret (r := some (.int ((-10) - nI 1))) rfl rfl trivial ⟨rfl, _, hQu1, rfl⟩ rfl

set_option maxHeartbeats 2000000 in
theorem m_write_ok (S : ST) (T : TD) (n : Nat) (b : Nat → Nat) (n' : Nat) (b' : Nat → Nat) (hL : ML T n b n' b' S) (hto : tok T) (k : Nat) (hk : k < tnb T) (s : Nat) (hs4 : s < 4) (lo fm sz : Nat) (hH : HM s lo fm sz S) (hlo0 : lo = 0) : EX me_R_write 8 [.ref 48, .int (nI k), .int (nI s)] S (fun r u => r = some (.int (nI (min sz 24))) ∧ (∀ j, j < min sz 24 → u.1 81 (60 * s + j) = cvt fm (nI (vgr (vo T (j + 1)) k))) ∧ (∀ x, ¬ (60 * s ≤ x ∧ x < 60 * s + min sz 24) → u.1 81 x = S.1 81 x) ∧ fr (81 :: MQL) S u ∧ f48 MF S u ∧ u.2 = S.2) := by
  refine EX.of mok_R_write (Nat.le_of_ble_eq_true rfl) ?_
  have n8 := hto.1
  obtain ⟨k1, k2, k3, hl1, hf2, hs60⟩ := id hH
  have m1 := Nat.min_le_left sz 24
  have m2 := Nat.min_le_right sz 24
  have m3 : sz ≤ min sz 24 ∨ 24 ≤ min sz 24 := by omega
  refine run_ok 2 (c' := (2, [(0, .ref 48), (1, .int (nI k)), (2, .int (nI s))], [.int (nI k), .ref 48], S)) rfl ?_
  refine x_callV [.int (nI k)] rfl cv_R_isBoat.1 lk_7_163 cv_R_isBoat.2.1 cv_R_isBoat.2.2.1 rfl cv_R_isBoat.2.2.2.1 rfl rfl (Nat.le_of_ble_eq_true rfl) (by decide) cv_R_isBoat.2.2.2.2 (m_isBoat S T n b n' b' (hL.stay QM.rf) hto (nI k)) ?_
  rintro r u1 ⟨hr, hRu1, hqu1⟩
  rw [hr]
  clear hr r
  have hQu1 : QM S u1 := QM.rf.tr hqu1
  refine x_ifB_eq 15 rfl rfl (fun hn => absurd hn (fun z => z (inr_t hk (by omega)))) (fun h5 => ?_)
  refine run_ok 1 (c' := (9, [(0, .ref 48), (1, .int (nI k)), (2, .int (nI s))], [.int (nI s)], u1)) rfl ?_
  refine x_callS [.int (nI s)] rfl cs_R_isSheet.1 lk_7_172 cs_R_isSheet.2.1 rfl rfl (Nat.le_of_ble_eq_true rfl) (by decide) cs_R_isSheet.2.2 (m_isSheet u1 (nI s)) ?_
  rintro r u ⟨hr, hu⟩
  rw [hr, hu]
  clear hr hu r u
  refine x_ifB_ne 18 rfl rfl (fun h12 => ?_) (fun hn => absurd (inr_t hs4 (by decide)) hn)
  refine run_ok 3 (c' := (23, [(0, .ref 48), (1, .int (nI k)), (2, .int (nI s))], [.int (nI s), .ref 78], u1)) rfl ?_
  refine x_zaN (nI (1 - lo)) rfl rfl (by decide) (by omega) (by rw [hQu1.1 78 (by decide)]; exact k1) ?_
  refine x_ifN_ne 33 rfl rfl (by omega) (fun h24 => ?_) (fun hn => absurd hn (by omega))
  refine run_ok 1 (c' := (34, [(0, .ref 48), (1, .int (nI k)), (2, .int (nI s))], [.ref 48], u1)) rfl ?_
  refine x_callV [] rfl cv_R_runsTold.1 lk_7_226 cv_R_runsTold.2.1 cv_R_runsTold.2.2.1 rfl cv_R_runsTold.2.2.2.1 rfl rfl (Nat.le_of_ble_eq_true rfl) (by decide) cv_R_runsTold.2.2.2.2 (m_runsTold u1 T n b n' b' (hL.stay hQu1) hto) ?_
  rintro r u2 ⟨hr, hTu2, hMu2, hCu2, hhu2, hqu2⟩
  rw [hr]
  clear hr r
  have hQu2 : QM S u2 := hQu1.tr hqu2
  obtain ⟨t1, t2, t3, t4, t5, t6, t7, t8, t9, t10, t11⟩ := id hTu2
  obtain ⟨m1, m2, m3, m4, m5, m6, m7⟩ := id hMu2
  refine run_ok 2 (c' := (39, [(0, .ref 48), (1, .int (nI k)), (2, .int (nI s)), (3, .int (nI 0))], [], u2)) rfl ?_
  refine loop_up (P := fun i => ∀ v : ST, (∀ j, j < i → v.1 81 (60 * s + j) = cvt fm (nI (vgr (vo T (j + 1)) k))) → (∀ x, ¬ (60 * s ≤ x ∧ x < 60 * s + i) → v.1 81 x = S.1 81 x) → fr [81] u2 v → v.2 = u2.2 → BX me_R_write 8 none (fun r u => r = some (.int (nI (min sz 24))) ∧ (∀ j, j < min sz 24 → u.1 81 (60 * s + j) = cvt fm (nI (vgr (vo T (j + 1)) k))) ∧ (∀ x, ¬ (60 * s ≤ x ∧ x < 60 * s + min sz 24) → u.1 81 x = S.1 81 x) ∧ fr (81 :: MQL) S u ∧ f48 MF S u ∧ u.2 = S.2) (39, [(0, .ref 48), (1, .int (nI k)), (2, .int (nI s)), (3, .int (nI i))], [], v)) (min sz 24) ?_ ?_ 0 (Nat.zero_le _) _ (fun j hj => absurd hj (Nat.not_lt_zero _)) (fun x _ => by rw [hQu2.1 81 (by decide)]) fr.rf rfl
  · intro v a0 a1 hf h2
    refine run_ok 4 (c' := (45, [(0, .ref 48), (1, .int (nI k)), (2, .int (nI s)), (3, .int (nI (min sz 24)))], [.int (nI s), .ref 80, .int (nI (min sz 24))], v)) rfl ?_
    refine x_iaN (nI sz) rfl rfl (by decide) (by omega) (by rw [hf 80 (by decide), hQu2.1 80 (by decide)]; exact k3) ?_
    refine x_icmpN_ge 78 rfl rfl (by omega) (by omega) (fun h46 => ?_) (fun h46 => ?_)
    · refine run_ok 1 (c' := (79, [(0, .ref 48), (1, .int (nI k)), (2, .int (nI s)), (3, .int (nI (min sz 24)))], [.int (nI (min sz 24))], v)) rfl ?_
      exact x_ret (r := some (.int (nI (min sz 24)))) rfl rfl trivial ⟨rfl, a0, a1, ((hQu2.1.sub (by decide)).tr (hf.sub (by decide))), hQu2.2.1.tr (f48.of hf (by decide)), h2.trans hQu2.2.2⟩ rfl
    · refine run_ok 2 (c' := (52, [(0, .ref 48), (1, .int (nI k)), (2, .int (nI s)), (3, .int (nI (min sz 24)))], [.int (nI 24), .int (nI (min sz 24))], v)) rfl ?_
      refine x_icmpN_ge 78 rfl rfl (by omega) (by omega) (fun h52 => ?_) (fun h52 => ?_)
      · refine run_ok 1 (c' := (79, [(0, .ref 48), (1, .int (nI k)), (2, .int (nI s)), (3, .int (nI (min sz 24)))], [.int (nI (min sz 24))], v)) rfl ?_
        exact x_ret (r := some (.int (nI (min sz 24)))) rfl rfl trivial ⟨rfl, a0, a1, ((hQu2.1.sub (by decide)).tr (hf.sub (by decide))), hQu2.2.1.tr (f48.of hf (by decide)), h2.trans hQu2.2.2⟩ rfl
      · exact absurd m3 (by omega)
  · intro i hi ih v a0 a1 hf h2
    refine run_ok 4 (c' := (45, [(0, .ref 48), (1, .int (nI k)), (2, .int (nI s)), (3, .int (nI i))], [.int (nI s), .ref 80, .int (nI i)], v)) rfl ?_
    refine x_iaN (nI sz) rfl rfl (by decide) (by omega) (by rw [hf 80 (by decide), hQu2.1 80 (by decide)]; exact k3) ?_
    refine x_icmpN_ge 78 rfl rfl (by omega) (by omega) (fun hn => absurd hn (show ¬ sz ≤ i by omega)) (fun h46 => ?_)
    refine run_ok 2 (c' := (52, [(0, .ref 48), (1, .int (nI k)), (2, .int (nI s)), (3, .int (nI i))], [.int (nI 24), .int (nI i)], v)) rfl ?_
    refine x_icmpN_ge 78 rfl rfl (by omega) (by omega) (fun hn => absurd hn (show ¬ 24 ≤ i by omega)) (fun h52 => ?_)
    refine run_ok 8 (c' := (66, [(0, .ref 48), (1, .int (nI k)), (2, .int (nI s)), (3, .int (nI i))], [.int ((nI 8) * (nI i)), .ref 70, .int (nI i), .int (nI s), .ref 48], v)) rfl ?_
    refine x_top (v' := nI (8 * i)) (pk_mul _ _) ?_
    refine run_ok 2 (c' := (68, [(0, .ref 48), (1, .int (nI k)), (2, .int (nI s)), (3, .int (nI i))], [.int ((nI (8 * i)) + (nI k)), .ref 70, .int (nI i), .int (nI s), .ref 48], v)) rfl ?_
    refine x_top (v' := nI ((8 * i) + k)) (nI_add _ _) ?_
    refine x_iaN (nI (vgr (vo T (i + 1)) k)) rfl rfl (by decide) (by omega) (by rw [hf 70 (by decide)]; exact (hCu2.1 i (by omega) k hk).2.2.1) ?_
    refine x_callV [.int (nI s), .int (nI i), .int (nI (vgr (vo T (i + 1)) k))] rfl cv_R_keep.1 lk_7_328 cv_R_keep.2.1 cv_R_keep.2.2.1 rfl cv_R_keep.2.2.2.1 rfl rfl (Nat.le_of_ble_eq_true rfl) (by decide) cv_R_keep.2.2.2.2 (m_keep v s hs4 lo fm sz ((hH.keep hQu2.1 (by decide)).keep hf (by decide)) i (by omega) _) ?_
    rintro r z ⟨hr, hu⟩
    rw [hr, hu]
    clear hr hu r z
    refine run_ok 1 (c' := (75, [(0, .ref 48), (1, .int (nI k)), (2, .int (nI s)), (3, .int (nI i + nI 1))], [], (pt v 81 (60 * s + i) (cvt fm (nI (vgr (vo T (i + 1)) k)))))) rfl ?_
    rw [nI_add i 1]
    refine run_ok 1 (c' := (39, [(0, .ref 48), (1, .int (nI k)), (2, .int (nI s)), (3, .int (nI (i + 1)))], [], (pt v 81 (60 * s + i) (cvt fm (nI (vgr (vo T (i + 1)) k)))))) rfl ?_
    refine ih _ (fun j hj => ?_) (fun x hx => ?_) (hf.pt (by decide)) h2
    · show upd (v.1 81) (60 * s + i) _ (60 * s + j) = _
      unfold upd
      split
      · rename_i e; rw [show j = i by omega]
      · exact a0 j (by omega)
    · show upd (v.1 81) (60 * s + i) _ x = _
      unfold upd
      rw [if_neg (by omega)]
      exact a1 x (by omega)

set_option maxHeartbeats 2000000 in
theorem m_sumOf0 (S : ST) (T : TD) (n : Nat) (b : Nat → Nat) (n' : Nat) (b' : Nat → Nat) (hL : ML T n b n' b' S) (hto : tok T)  : EX me_R_sumOf 8 [.ref 48, .int (nI 0)] S (fun r u => r = some (.int (nI (hcn n b))) ∧ QM S u) := by
  refine EX.of mok_R_sumOf (Nat.le_of_ble_eq_true rfl) ?_
  refine run_ok 1 (c' := (1, [(0, .ref 48), (1, .int (nI 0))], [.ref 48], S)) rfl ?_
  refine x_callV [] rfl cv_R_runsTold.1 lk_7_226 cv_R_runsTold.2.1 cv_R_runsTold.2.2.1 rfl cv_R_runsTold.2.2.2.1 rfl rfl (Nat.le_of_ble_eq_true rfl) (by decide) cv_R_runsTold.2.2.2.2 (m_runsTold S T n b n' b' (hL.stay QM.rf) hto) ?_
  rintro r u1 ⟨hr, hTu1, hMu1, hCu1, hhu1, hqu1⟩
  rw [hr]
  clear hr r
  have hQu1 : QM S u1 := QM.rf.tr hqu1
  obtain ⟨t1, t2, t3, t4, t5, t6, t7, t8, t9, t10, t11⟩ := id hTu1
  obtain ⟨m1, m2, m3, m4, m5, m6, m7⟩ := id hMu1
  refine run_ok 4 (c' := (8, [(0, .ref 48), (1, .int (nI 0)), (2, .int (nI 0)), (3, .int (nI 0))], [], u1)) rfl ?_
  refine loop_up (P := fun i => BX me_R_sumOf 8 none (fun r u => r = some (.int (nI (hcn n b))) ∧ QM S u) (8, [(0, .ref 48), (1, .int (nI 0)), (2, .int (nI (sha_ (vh (vo T 24)) i))), (3, .int (nI i))], [], u1)) (8) ?_ ?_ 0 (by omega)
  · skip
    refine run_ok 2 (c' := (11, [(0, .ref 48), (1, .int (nI 0)), (2, .int (nI (sha_ (vh (vo T 24)) 8))), (3, .int (nI 8))], [.int (nI 8), .int (nI 8)], u1)) rfl ?_
    refine x_icmpN_ge 28 rfl rfl (by omega) (by omega) (fun h11 => ?_) (fun hn => absurd (Nat.le_refl _) hn)
    refine run_ok 1 (c' := (29, [(0, .ref 48), (1, .int (nI 0)), (2, .int (nI (sha_ (vh (vo T 24)) 8))), (3, .int (nI 8))], [.int (nI 0)], u1)) rfl ?_
    refine x_ifN_ne 39 rfl rfl (by omega) (fun hn => absurd hn (by decide)) (fun _ => ?_)
    refine run_ok 2 (c' := (36, [(0, .ref 48), (1, .int (nI 0)), (2, .int (nI (sha_ (vh (vo T 24)) 8))), (3, .int (nI 8))], [.int (u1.1 48 2)], u1)) rfl ?_
    refine x_top (v' := nI (hcn n b)) hhu1 ?_
    refine run_ok 1 (c' := (67, [(0, .ref 48), (1, .int (nI 0)), (2, .int (nI (sha_ (vh (vo T 24)) 8))), (3, .int (nI 8))], [.int (nI (hcn n b))], u1)) rfl ?_
    exact x_ret (r := some (.int (nI (hcn n b)))) rfl rfl trivial ⟨rfl, hQu1⟩ rfl
  · intro i hi ih
    refine run_ok 2 (c' := (11, [(0, .ref 48), (1, .int (nI 0)), (2, .int (nI (sha_ (vh (vo T 24)) i))), (3, .int (nI i))], [.int (nI 8), .int (nI i)], u1)) rfl ?_
    refine x_icmpN_ge 28 rfl rfl (by omega) (by omega) (fun hn => absurd hn (show ¬ 8 ≤ i by omega)) (fun h11 => ?_)
    refine run_ok 3 (c' := (17, [(0, .ref 48), (1, .int (nI 0)), (2, .int (nI (sha_ (vh (vo T 24)) i))), (3, .int (nI i))], [.int (nI i), .ref 48, .int (nI (sha_ (vh (vo T 24)) i))], u1)) rfl ?_
    refine x_callV [.int (nI i)] rfl cv_R_hatesAll.1 lk_7_254 cv_R_hatesAll.2.1 cv_R_hatesAll.2.2.1 rfl cv_R_hatesAll.2.2.2.1 rfl rfl (Nat.le_of_ble_eq_true rfl) (by decide) cv_R_hatesAll.2.2.2.2 (m_hatesAll u1 (vh (vo T 24)) m1 i (by omega)) ?_
    rintro r z ⟨hr, hu⟩
    rw [hr, hu]
    clear hr hu r z
    refine run_ok 1 (c' := (21, [(0, .ref 48), (1, .int (nI 0)), (2, .int (nI (sha_ (vh (vo T 24)) i))), (3, .int (nI i))], [.int ((nI (sha_ (vh (vo T 24)) i)) + (nI (shs (vh (vo T 24)) i 8)))], u1)) rfl ?_
    refine x_top (v' := nI ((sha_ (vh (vo T 24)) i) + (shs (vh (vo T 24)) i 8))) (nI_add _ _) ?_
    refine run_ok 2 (c' := (25, [(0, .ref 48), (1, .int (nI 0)), (2, .int (nI ((sha_ (vh (vo T 24)) i) + (shs (vh (vo T 24)) i 8)))), (3, .int (nI i + nI 1))], [], u1)) rfl ?_
    rw [nI_add i 1]
    refine run_ok 1 (c' := (8, [(0, .ref 48), (1, .int (nI 0)), (2, .int (nI ((sha_ (vh (vo T 24)) i) + (shs (vh (vo T 24)) i 8)))), (3, .int (nI (i + 1)))], [], u1)) rfl ?_
    refine x_less [0, 1, 2, 3] rfl ?_
    exact ih

set_option maxHeartbeats 2000000 in
theorem m_count0 (S : ST) (T : TD) (n : Nat) (b : Nat → Nat) (n' : Nat) (b' : Nat → Nat) (hL : ML T n b n' b' S) (hto : tok T)  : EX me_R_count 9 [.ref 48, .int (nI 0)] S (fun r u => r = some (.int (nI (hcn n b))) ∧ QM S u) := by
  refine EX.of mok_R_count (Nat.le_of_ble_eq_true rfl) ?_
  refine run_ok 1 (c' := (1, [(0, .ref 48), (1, .int (nI 0))], [.int (nI 0)], S)) rfl ?_
  refine x_tabIn 52 rfl (by decide) (by decide) rfl rfl ?_
  refine run_ok 2 (c' := (54, [(0, .ref 48), (1, .int (nI 0))], [.int (nI 0), .ref 48], S)) rfl ?_
  refine x_callV [.int (nI 0)] rfl cv_R_sumOf.1 lk_7_333 cv_R_sumOf.2.1 cv_R_sumOf.2.2.1 rfl cv_R_sumOf.2.2.2.1 rfl rfl (Nat.le_of_ble_eq_true rfl) (by decide) cv_R_sumOf.2.2.2.2 (m_sumOf0 S T n b n' b' (hL.stay QM.rf) hto) ?_
  rintro r u1 ⟨hr, hqu1⟩
  rw [hr]
  clear hr r
  have hQu1 : QM S u1 := QM.rf.tr hqu1
  exact x_ret (r := some (.int (nI (hcn n b)))) rfl rfl trivial ⟨rfl, hQu1⟩ rfl

set_option maxHeartbeats 2000000 in
theorem m_sumOf1 (S : ST) (T : TD) (n : Nat) (b : Nat → Nat) (n' : Nat) (b' : Nat → Nat) (hL : ML T n b n' b' S) (hto : tok T)  : EX me_R_sumOf 8 [.ref 48, .int (nI 1)] S (fun r u => r = some (.int (nI (tnb T))) ∧ QM S u) := by
  refine EX.of mok_R_sumOf (Nat.le_of_ble_eq_true rfl) ?_
  refine run_ok 1 (c' := (1, [(0, .ref 48), (1, .int (nI 1))], [.ref 48], S)) rfl ?_
  refine x_callV [] rfl cv_R_runsTold.1 lk_7_226 cv_R_runsTold.2.1 cv_R_runsTold.2.2.1 rfl cv_R_runsTold.2.2.2.1 rfl rfl (Nat.le_of_ble_eq_true rfl) (by decide) cv_R_runsTold.2.2.2.2 (m_runsTold S T n b n' b' (hL.stay QM.rf) hto) ?_
  rintro r u1 ⟨hr, hTu1, hMu1, hCu1, hhu1, hqu1⟩
  rw [hr]
  clear hr r
  have hQu1 : QM S u1 := QM.rf.tr hqu1
  obtain ⟨t1, t2, t3, t4, t5, t6, t7, t8, t9, t10, t11⟩ := id hTu1
  obtain ⟨m1, m2, m3, m4, m5, m6, m7⟩ := id hMu1
  refine run_ok 4 (c' := (8, [(0, .ref 48), (1, .int (nI 1)), (2, .int (nI 0)), (3, .int (nI 0))], [], u1)) rfl ?_
  refine loop_up (P := fun i => BX me_R_sumOf 8 none (fun r u => r = some (.int (nI (tnb T))) ∧ QM S u) (8, [(0, .ref 48), (1, .int (nI 1)), (2, .int (nI (sha_ (vh (vo T 24)) i))), (3, .int (nI i))], [], u1)) (8) ?_ ?_ 0 (by omega)
  · skip
    refine run_ok 2 (c' := (11, [(0, .ref 48), (1, .int (nI 1)), (2, .int (nI (sha_ (vh (vo T 24)) 8))), (3, .int (nI 8))], [.int (nI 8), .int (nI 8)], u1)) rfl ?_
    refine x_icmpN_ge 28 rfl rfl (by omega) (by omega) (fun h11 => ?_) (fun hn => absurd (Nat.le_refl _) hn)
    refine run_ok 1 (c' := (29, [(0, .ref 48), (1, .int (nI 1)), (2, .int (nI (sha_ (vh (vo T 24)) 8))), (3, .int (nI 8))], [.int (nI 1)], u1)) rfl ?_
    refine x_ifN_ne 39 rfl rfl (by omega) (fun _ => ?_) (fun hn => absurd hn (by decide))
    refine run_ok 2 (c' := (41, [(0, .ref 48), (1, .int (nI 1)), (2, .int (nI (sha_ (vh (vo T 24)) 8))), (3, .int (nI 8))], [.int (nI 1), .int (nI 1)], u1)) rfl ?_
    refine x_icmpN_ne 51 rfl rfl (by omega) (by omega) (fun hn => absurd hn (by decide)) (fun _ => ?_)
    refine run_ok 2 (c' := (48, [(0, .ref 48), (1, .int (nI 1)), (2, .int (nI (sha_ (vh (vo T 24)) 8))), (3, .int (nI 8))], [.int (u1.1 48 5)], u1)) rfl ?_
    refine x_top (v' := nI (tnb T)) t9 ?_
    refine run_ok 1 (c' := (67, [(0, .ref 48), (1, .int (nI 1)), (2, .int (nI (sha_ (vh (vo T 24)) 8))), (3, .int (nI 8))], [.int (nI (tnb T))], u1)) rfl ?_
    exact x_ret (r := some (.int (nI (tnb T)))) rfl rfl trivial ⟨rfl, hQu1⟩ rfl
  · intro i hi ih
    refine run_ok 2 (c' := (11, [(0, .ref 48), (1, .int (nI 1)), (2, .int (nI (sha_ (vh (vo T 24)) i))), (3, .int (nI i))], [.int (nI 8), .int (nI i)], u1)) rfl ?_
    refine x_icmpN_ge 28 rfl rfl (by omega) (by omega) (fun hn => absurd hn (show ¬ 8 ≤ i by omega)) (fun h11 => ?_)
    refine run_ok 3 (c' := (17, [(0, .ref 48), (1, .int (nI 1)), (2, .int (nI (sha_ (vh (vo T 24)) i))), (3, .int (nI i))], [.int (nI i), .ref 48, .int (nI (sha_ (vh (vo T 24)) i))], u1)) rfl ?_
    refine x_callV [.int (nI i)] rfl cv_R_hatesAll.1 lk_7_254 cv_R_hatesAll.2.1 cv_R_hatesAll.2.2.1 rfl cv_R_hatesAll.2.2.2.1 rfl rfl (Nat.le_of_ble_eq_true rfl) (by decide) cv_R_hatesAll.2.2.2.2 (m_hatesAll u1 (vh (vo T 24)) m1 i (by omega)) ?_
    rintro r z ⟨hr, hu⟩
    rw [hr, hu]
    clear hr hu r z
    refine run_ok 1 (c' := (21, [(0, .ref 48), (1, .int (nI 1)), (2, .int (nI (sha_ (vh (vo T 24)) i))), (3, .int (nI i))], [.int ((nI (sha_ (vh (vo T 24)) i)) + (nI (shs (vh (vo T 24)) i 8)))], u1)) rfl ?_
    refine x_top (v' := nI ((sha_ (vh (vo T 24)) i) + (shs (vh (vo T 24)) i 8))) (nI_add _ _) ?_
    refine run_ok 2 (c' := (25, [(0, .ref 48), (1, .int (nI 1)), (2, .int (nI ((sha_ (vh (vo T 24)) i) + (shs (vh (vo T 24)) i 8)))), (3, .int (nI i + nI 1))], [], u1)) rfl ?_
    rw [nI_add i 1]
    refine run_ok 1 (c' := (8, [(0, .ref 48), (1, .int (nI 1)), (2, .int (nI ((sha_ (vh (vo T 24)) i) + (shs (vh (vo T 24)) i 8)))), (3, .int (nI (i + 1)))], [], u1)) rfl ?_
    refine x_less [0, 1, 2, 3] rfl ?_
    exact ih

set_option maxHeartbeats 2000000 in
theorem m_count1 (S : ST) (T : TD) (n : Nat) (b : Nat → Nat) (n' : Nat) (b' : Nat → Nat) (hL : ML T n b n' b' S) (hto : tok T)  : EX me_R_count 9 [.ref 48, .int (nI 1)] S (fun r u => r = some (.int (nI (tnb T))) ∧ QM S u) := by
  refine EX.of mok_R_count (Nat.le_of_ble_eq_true rfl) ?_
  refine run_ok 1 (c' := (1, [(0, .ref 48), (1, .int (nI 1))], [.int (nI 1)], S)) rfl ?_
  refine x_tabIn 52 rfl (by decide) (by decide) rfl rfl ?_
  refine run_ok 2 (c' := (54, [(0, .ref 48), (1, .int (nI 1))], [.int (nI 1), .ref 48], S)) rfl ?_
  refine x_callV [.int (nI 1)] rfl cv_R_sumOf.1 lk_7_333 cv_R_sumOf.2.1 cv_R_sumOf.2.2.1 rfl cv_R_sumOf.2.2.2.1 rfl rfl (Nat.le_of_ble_eq_true rfl) (by decide) cv_R_sumOf.2.2.2.2 (m_sumOf1 S T n b n' b' (hL.stay QM.rf) hto) ?_
  rintro r u1 ⟨hr, hqu1⟩
  rw [hr]
  clear hr r
  have hQu1 : QM S u1 := QM.rf.tr hqu1
  exact x_ret (r := some (.int (nI (tnb T)))) rfl rfl trivial ⟨rfl, hQu1⟩ rfl

set_option maxHeartbeats 2000000 in
theorem m_sumOf5 (S : ST) (T : TD) (n : Nat) (b : Nat → Nat) (n' : Nat) (b' : Nat → Nat) (hL : ML T n b n' b' S) (hto : tok T)  : EX me_R_sumOf 8 [.ref 48, .int (nI 5)] S (fun r u => r = some (.int (nI (cnt (fun k => decide (vis (vo T 24) k = 2)) (tnb T)))) ∧ QM S u) := by
  refine EX.of mok_R_sumOf (Nat.le_of_ble_eq_true rfl) ?_
  refine run_ok 1 (c' := (1, [(0, .ref 48), (1, .int (nI 5))], [.ref 48], S)) rfl ?_
  refine x_callV [] rfl cv_R_runsTold.1 lk_7_226 cv_R_runsTold.2.1 cv_R_runsTold.2.2.1 rfl cv_R_runsTold.2.2.2.1 rfl rfl (Nat.le_of_ble_eq_true rfl) (by decide) cv_R_runsTold.2.2.2.2 (m_runsTold S T n b n' b' (hL.stay QM.rf) hto) ?_
  rintro r u1 ⟨hr, hTu1, hMu1, hCu1, hhu1, hqu1⟩
  rw [hr]
  clear hr r
  have hQu1 : QM S u1 := QM.rf.tr hqu1
  obtain ⟨t1, t2, t3, t4, t5, t6, t7, t8, t9, t10, t11⟩ := id hTu1
  obtain ⟨m1, m2, m3, m4, m5, m6, m7⟩ := id hMu1
  refine run_ok 4 (c' := (8, [(0, .ref 48), (1, .int (nI 5)), (2, .int (nI 0)), (3, .int (nI 0))], [], u1)) rfl ?_
  refine loop_up (P := fun i => BX me_R_sumOf 8 none (fun r u => r = some (.int (nI (cnt (fun k => decide (vis (vo T 24) k = 2)) (tnb T)))) ∧ QM S u) (8, [(0, .ref 48), (1, .int (nI 5)), (2, .int (nI (sha_ (vh (vo T 24)) i))), (3, .int (nI i))], [], u1)) (8) ?_ ?_ 0 (by omega)
  · skip
    refine run_ok 2 (c' := (11, [(0, .ref 48), (1, .int (nI 5)), (2, .int (nI (sha_ (vh (vo T 24)) 8))), (3, .int (nI 8))], [.int (nI 8), .int (nI 8)], u1)) rfl ?_
    refine x_icmpN_ge 28 rfl rfl (by omega) (by omega) (fun h11 => ?_) (fun hn => absurd (Nat.le_refl _) hn)
    refine run_ok 1 (c' := (29, [(0, .ref 48), (1, .int (nI 5)), (2, .int (nI (sha_ (vh (vo T 24)) 8))), (3, .int (nI 8))], [.int (nI 5)], u1)) rfl ?_
    refine x_ifN_ne 39 rfl rfl (by omega) (fun _ => ?_) (fun hn => absurd hn (by decide))
    refine run_ok 2 (c' := (41, [(0, .ref 48), (1, .int (nI 5)), (2, .int (nI (sha_ (vh (vo T 24)) 8))), (3, .int (nI 8))], [.int (nI 1), .int (nI 5)], u1)) rfl ?_
    refine x_icmpN_ne 51 rfl rfl (by omega) (by omega) (fun _ => ?_) (fun hn => absurd hn (by decide))
    refine run_ok 2 (c' := (53, [(0, .ref 48), (1, .int (nI 5)), (2, .int (nI (sha_ (vh (vo T 24)) 8))), (3, .int (nI 8))], [.int (nI 5), .int (nI 5)], u1)) rfl ?_
    refine x_icmpN_ne 66 rfl rfl (by omega) (by omega) (fun hn => absurd hn (by decide)) (fun _ => ?_)
    refine run_ok 3 (c' := (60, [(0, .ref 48), (1, .int (nI 5)), (2, .int (nI (sha_ (vh (vo T 24)) 8))), (3, .int (nI 8))], [.int (nI 2), .int (nI 23), .ref 48], u1)) rfl ?_
    refine x_callV [.int (nI 23), .int (nI 2)] rfl cv_R_manyAt.1 lk_7_235 cv_R_manyAt.2.1 cv_R_manyAt.2.2.1 rfl cv_R_manyAt.2.2.2.1 rfl rfl (Nat.le_of_ble_eq_true rfl) (by decide) cv_R_manyAt.2.2.2.2 (m_manyAt u1 T hTu1 hCu1 hto 23 2 (by omega) (by decide)) ?_
    rintro r z ⟨hr, hu⟩
    rw [hr, hu]
    clear hr hu r z
    refine run_ok 1 (c' := (67, [(0, .ref 48), (1, .int (nI 5)), (2, .int (nI (sha_ (vh (vo T 24)) 8))), (3, .int (nI 8))], [.int (nI (cnt (fun k => decide (vis (vo T 24) k = 2)) (tnb T)))], u1)) rfl ?_
    exact x_ret (r := some (.int (nI (cnt (fun k => decide (vis (vo T 24) k = 2)) (tnb T))))) rfl rfl trivial ⟨rfl, hQu1⟩ rfl
  · intro i hi ih
    refine run_ok 2 (c' := (11, [(0, .ref 48), (1, .int (nI 5)), (2, .int (nI (sha_ (vh (vo T 24)) i))), (3, .int (nI i))], [.int (nI 8), .int (nI i)], u1)) rfl ?_
    refine x_icmpN_ge 28 rfl rfl (by omega) (by omega) (fun hn => absurd hn (show ¬ 8 ≤ i by omega)) (fun h11 => ?_)
    refine run_ok 3 (c' := (17, [(0, .ref 48), (1, .int (nI 5)), (2, .int (nI (sha_ (vh (vo T 24)) i))), (3, .int (nI i))], [.int (nI i), .ref 48, .int (nI (sha_ (vh (vo T 24)) i))], u1)) rfl ?_
    refine x_callV [.int (nI i)] rfl cv_R_hatesAll.1 lk_7_254 cv_R_hatesAll.2.1 cv_R_hatesAll.2.2.1 rfl cv_R_hatesAll.2.2.2.1 rfl rfl (Nat.le_of_ble_eq_true rfl) (by decide) cv_R_hatesAll.2.2.2.2 (m_hatesAll u1 (vh (vo T 24)) m1 i (by omega)) ?_
    rintro r z ⟨hr, hu⟩
    rw [hr, hu]
    clear hr hu r z
    refine run_ok 1 (c' := (21, [(0, .ref 48), (1, .int (nI 5)), (2, .int (nI (sha_ (vh (vo T 24)) i))), (3, .int (nI i))], [.int ((nI (sha_ (vh (vo T 24)) i)) + (nI (shs (vh (vo T 24)) i 8)))], u1)) rfl ?_
    refine x_top (v' := nI ((sha_ (vh (vo T 24)) i) + (shs (vh (vo T 24)) i 8))) (nI_add _ _) ?_
    refine run_ok 2 (c' := (25, [(0, .ref 48), (1, .int (nI 5)), (2, .int (nI ((sha_ (vh (vo T 24)) i) + (shs (vh (vo T 24)) i 8)))), (3, .int (nI i + nI 1))], [], u1)) rfl ?_
    rw [nI_add i 1]
    refine run_ok 1 (c' := (8, [(0, .ref 48), (1, .int (nI 5)), (2, .int (nI ((sha_ (vh (vo T 24)) i) + (shs (vh (vo T 24)) i 8)))), (3, .int (nI (i + 1)))], [], u1)) rfl ?_
    refine x_less [0, 1, 2, 3] rfl ?_
    exact ih

set_option maxHeartbeats 2000000 in
theorem m_count5 (S : ST) (T : TD) (n : Nat) (b : Nat → Nat) (n' : Nat) (b' : Nat → Nat) (hL : ML T n b n' b' S) (hto : tok T)  : EX me_R_count 9 [.ref 48, .int (nI 5)] S (fun r u => r = some (.int (nI (cnt (fun k => decide (vis (vo T 24) k = 2)) (tnb T)))) ∧ QM S u) := by
  refine EX.of mok_R_count (Nat.le_of_ble_eq_true rfl) ?_
  refine run_ok 1 (c' := (1, [(0, .ref 48), (1, .int (nI 5))], [.int (nI 5)], S)) rfl ?_
  refine x_tabIn 52 rfl (by decide) (by decide) rfl rfl ?_
  refine run_ok 2 (c' := (54, [(0, .ref 48), (1, .int (nI 5))], [.int (nI 5), .ref 48], S)) rfl ?_
  refine x_callV [.int (nI 5)] rfl cv_R_sumOf.1 lk_7_333 cv_R_sumOf.2.1 cv_R_sumOf.2.2.1 rfl cv_R_sumOf.2.2.2.1 rfl rfl (Nat.le_of_ble_eq_true rfl) (by decide) cv_R_sumOf.2.2.2.2 (m_sumOf5 S T n b n' b' (hL.stay QM.rf) hto) ?_
  rintro r u1 ⟨hr, hqu1⟩
  rw [hr]
  clear hr r
  have hQu1 : QM S u1 := QM.rf.tr hqu1
  exact x_ret (r := some (.int (nI (cnt (fun k => decide (vis (vo T 24) k = 2)) (tnb T))))) rfl rfl trivial ⟨rfl, hQu1⟩ rfl

set_option maxHeartbeats 2000000 in
theorem m_sumOf6 (S : ST) (T : TD) (n : Nat) (b : Nat → Nat) (n' : Nat) (b' : Nat → Nat) (hL : ML T n b n' b' S) (hto : tok T)  : EX me_R_sumOf 8 [.ref 48, .int (nI 6)] S (fun r u => r = some (.int (nI (sha_ (vh (vo T 24)) 8))) ∧ QM S u) := by
  refine EX.of mok_R_sumOf (Nat.le_of_ble_eq_true rfl) ?_
  refine run_ok 1 (c' := (1, [(0, .ref 48), (1, .int (nI 6))], [.ref 48], S)) rfl ?_
  refine x_callV [] rfl cv_R_runsTold.1 lk_7_226 cv_R_runsTold.2.1 cv_R_runsTold.2.2.1 rfl cv_R_runsTold.2.2.2.1 rfl rfl (Nat.le_of_ble_eq_true rfl) (by decide) cv_R_runsTold.2.2.2.2 (m_runsTold S T n b n' b' (hL.stay QM.rf) hto) ?_
  rintro r u1 ⟨hr, hTu1, hMu1, hCu1, hhu1, hqu1⟩
  rw [hr]
  clear hr r
  have hQu1 : QM S u1 := QM.rf.tr hqu1
  obtain ⟨t1, t2, t3, t4, t5, t6, t7, t8, t9, t10, t11⟩ := id hTu1
  obtain ⟨m1, m2, m3, m4, m5, m6, m7⟩ := id hMu1
  refine run_ok 4 (c' := (8, [(0, .ref 48), (1, .int (nI 6)), (2, .int (nI 0)), (3, .int (nI 0))], [], u1)) rfl ?_
  refine loop_up (P := fun i => BX me_R_sumOf 8 none (fun r u => r = some (.int (nI (sha_ (vh (vo T 24)) 8))) ∧ QM S u) (8, [(0, .ref 48), (1, .int (nI 6)), (2, .int (nI (sha_ (vh (vo T 24)) i))), (3, .int (nI i))], [], u1)) (8) ?_ ?_ 0 (by omega)
  · skip
    refine run_ok 2 (c' := (11, [(0, .ref 48), (1, .int (nI 6)), (2, .int (nI (sha_ (vh (vo T 24)) 8))), (3, .int (nI 8))], [.int (nI 8), .int (nI 8)], u1)) rfl ?_
    refine x_icmpN_ge 28 rfl rfl (by omega) (by omega) (fun h11 => ?_) (fun hn => absurd (Nat.le_refl _) hn)
    refine run_ok 1 (c' := (29, [(0, .ref 48), (1, .int (nI 6)), (2, .int (nI (sha_ (vh (vo T 24)) 8))), (3, .int (nI 8))], [.int (nI 6)], u1)) rfl ?_
    refine x_ifN_ne 39 rfl rfl (by omega) (fun _ => ?_) (fun hn => absurd hn (by decide))
    refine run_ok 2 (c' := (41, [(0, .ref 48), (1, .int (nI 6)), (2, .int (nI (sha_ (vh (vo T 24)) 8))), (3, .int (nI 8))], [.int (nI 1), .int (nI 6)], u1)) rfl ?_
    refine x_icmpN_ne 51 rfl rfl (by omega) (by omega) (fun _ => ?_) (fun hn => absurd hn (by decide))
    refine run_ok 2 (c' := (53, [(0, .ref 48), (1, .int (nI 6)), (2, .int (nI (sha_ (vh (vo T 24)) 8))), (3, .int (nI 8))], [.int (nI 5), .int (nI 6)], u1)) rfl ?_
    refine x_icmpN_ne 66 rfl rfl (by omega) (by omega) (fun _ => ?_) (fun hn => absurd hn (by decide))
    refine run_ok 1 (c' := (67, [(0, .ref 48), (1, .int (nI 6)), (2, .int (nI (sha_ (vh (vo T 24)) 8))), (3, .int (nI 8))], [.int (nI (sha_ (vh (vo T 24)) 8))], u1)) rfl ?_
    exact x_ret (r := some (.int (nI (sha_ (vh (vo T 24)) 8)))) rfl rfl trivial ⟨rfl, hQu1⟩ rfl
  · intro i hi ih
    refine run_ok 2 (c' := (11, [(0, .ref 48), (1, .int (nI 6)), (2, .int (nI (sha_ (vh (vo T 24)) i))), (3, .int (nI i))], [.int (nI 8), .int (nI i)], u1)) rfl ?_
    refine x_icmpN_ge 28 rfl rfl (by omega) (by omega) (fun hn => absurd hn (show ¬ 8 ≤ i by omega)) (fun h11 => ?_)
    refine run_ok 3 (c' := (17, [(0, .ref 48), (1, .int (nI 6)), (2, .int (nI (sha_ (vh (vo T 24)) i))), (3, .int (nI i))], [.int (nI i), .ref 48, .int (nI (sha_ (vh (vo T 24)) i))], u1)) rfl ?_
    refine x_callV [.int (nI i)] rfl cv_R_hatesAll.1 lk_7_254 cv_R_hatesAll.2.1 cv_R_hatesAll.2.2.1 rfl cv_R_hatesAll.2.2.2.1 rfl rfl (Nat.le_of_ble_eq_true rfl) (by decide) cv_R_hatesAll.2.2.2.2 (m_hatesAll u1 (vh (vo T 24)) m1 i (by omega)) ?_
    rintro r z ⟨hr, hu⟩
    rw [hr, hu]
    clear hr hu r z
    refine run_ok 1 (c' := (21, [(0, .ref 48), (1, .int (nI 6)), (2, .int (nI (sha_ (vh (vo T 24)) i))), (3, .int (nI i))], [.int ((nI (sha_ (vh (vo T 24)) i)) + (nI (shs (vh (vo T 24)) i 8)))], u1)) rfl ?_
    refine x_top (v' := nI ((sha_ (vh (vo T 24)) i) + (shs (vh (vo T 24)) i 8))) (nI_add _ _) ?_
    refine run_ok 2 (c' := (25, [(0, .ref 48), (1, .int (nI 6)), (2, .int (nI ((sha_ (vh (vo T 24)) i) + (shs (vh (vo T 24)) i 8)))), (3, .int (nI i + nI 1))], [], u1)) rfl ?_
    rw [nI_add i 1]
    refine run_ok 1 (c' := (8, [(0, .ref 48), (1, .int (nI 6)), (2, .int (nI ((sha_ (vh (vo T 24)) i) + (shs (vh (vo T 24)) i 8)))), (3, .int (nI (i + 1)))], [], u1)) rfl ?_
    refine x_less [0, 1, 2, 3] rfl ?_
    exact ih

set_option maxHeartbeats 2000000 in
theorem m_count6 (S : ST) (T : TD) (n : Nat) (b : Nat → Nat) (n' : Nat) (b' : Nat → Nat) (hL : ML T n b n' b' S) (hto : tok T)  : EX me_R_count 9 [.ref 48, .int (nI 6)] S (fun r u => r = some (.int (nI (sha_ (vh (vo T 24)) 8))) ∧ QM S u) := by
  refine EX.of mok_R_count (Nat.le_of_ble_eq_true rfl) ?_
  refine run_ok 1 (c' := (1, [(0, .ref 48), (1, .int (nI 6))], [.int (nI 6)], S)) rfl ?_
  refine x_tabIn 52 rfl (by decide) (by decide) rfl rfl ?_
  refine run_ok 2 (c' := (54, [(0, .ref 48), (1, .int (nI 6))], [.int (nI 6), .ref 48], S)) rfl ?_
  refine x_callV [.int (nI 6)] rfl cv_R_sumOf.1 lk_7_333 cv_R_sumOf.2.1 cv_R_sumOf.2.2.1 rfl cv_R_sumOf.2.2.2.1 rfl rfl (Nat.le_of_ble_eq_true rfl) (by decide) cv_R_sumOf.2.2.2.2 (m_sumOf6 S T n b n' b' (hL.stay QM.rf) hto) ?_
  rintro r u1 ⟨hr, hqu1⟩
  rw [hr]
  clear hr r
  have hQu1 : QM S u1 := QM.rf.tr hqu1
  exact x_ret (r := some (.int (nI (sha_ (vh (vo T 24)) 8)))) rfl rfl trivial ⟨rfl, hQu1⟩ rfl

set_option maxHeartbeats 2000000 in
theorem m_count2 (S : ST) (T : TD) (n : Nat) (b : Nat → Nat) (n' : Nat) (b' : Nat → Nat) (hL : ML T n b n' b' S) (hto : tok T)  : EX me_R_count 9 [.ref 48, .int (nI 2)] S (fun r u => r = some (.int (nI n)) ∧ QM S u) := by
  refine EX.of mok_R_count (Nat.le_of_ble_eq_true rfl) ?_
  refine run_ok 1 (c' := (1, [(0, .ref 48), (1, .int (nI 2))], [.int (nI 2)], S)) rfl ?_
  refine x_tabIn 58 rfl (by decide) (by decide) rfl rfl ?_
  refine run_ok 5 (c' := (65, [(0, .ref 48), (1, .int (nI 2))], [.int ((nI 2) - (nI 2)), .ref 49], S)) rfl ?_
  refine x_top (v' := nI 0) rfl ?_
  refine x_iaN (nI n) rfl rfl (by decide) (by omega) hL.1.1.1 ?_
  exact x_ret (r := some (.int (nI n))) rfl rfl trivial ⟨rfl, QM.rf⟩ rfl

set_option maxHeartbeats 2000000 in
theorem m_count3 (S : ST) (T : TD) (n : Nat) (b : Nat → Nat) (n' : Nat) (b' : Nat → Nat) (hL : ML T n b n' b' S) (hto : tok T)  : EX me_R_count 9 [.ref 48, .int (nI 3)] S (fun r u => r = some (.int (nI n')) ∧ QM S u) := by
  refine EX.of mok_R_count (Nat.le_of_ble_eq_true rfl) ?_
  refine run_ok 1 (c' := (1, [(0, .ref 48), (1, .int (nI 3))], [.int (nI 3)], S)) rfl ?_
  refine x_tabIn 58 rfl (by decide) (by decide) rfl rfl ?_
  refine run_ok 5 (c' := (65, [(0, .ref 48), (1, .int (nI 3))], [.int ((nI 3) - (nI 2)), .ref 49], S)) rfl ?_
  refine x_top (v' := nI 1) rfl ?_
  refine x_iaN (nI n') rfl rfl (by decide) (by omega) hL.2.1.1.1 ?_
  exact x_ret (r := some (.int (nI n'))) rfl rfl trivial ⟨rfl, QM.rf⟩ rfl

set_option maxHeartbeats 2000000 in
theorem m_count4 (S : ST) (T : TD) (n : Nat) (b : Nat → Nat) (n' : Nat) (b' : Nat → Nat) (hL : ML T n b n' b' S) (hto : tok T)  : EX me_R_count 9 [.ref 48, .int (nI 4)] S (fun r u => r = some (.int (nI (tne T))) ∧ QM S u) := by
  refine EX.of mok_R_count (Nat.le_of_ble_eq_true rfl) ?_
  refine run_ok 1 (c' := (1, [(0, .ref 48), (1, .int (nI 4))], [.int (nI 4)], S)) rfl ?_
  refine x_tabIn 67 rfl (by decide) (by decide) rfl rfl ?_
  refine run_ok 2 (c' := (71, [(0, .ref 48), (1, .int (nI 4))], [.int (S.1 48 10)], S)) rfl ?_
  refine x_top (v' := nI (tne T)) hL.2.2.2.2.2.2.2.2.1 ?_
  exact x_ret (r := some (.int (nI (tne T)))) rfl rfl trivial ⟨rfl, QM.rf⟩ rfl

set_option maxHeartbeats 2000000 in
theorem m_count7 (S : ST) (T : TD) (n : Nat) (b : Nat → Nat) (n' : Nat) (b' : Nat → Nat) (hL : ML T n b n' b' S) (hto : tok T)  : EX me_R_count 9 [.ref 48, .int (nI 7)] S (fun r u => r = some (.int (S.1 48 32)) ∧ QM S u) := by
  refine EX.of mok_R_count (Nat.le_of_ble_eq_true rfl) ?_
  refine run_ok 1 (c' := (1, [(0, .ref 48), (1, .int (nI 7))], [.int (nI 7)], S)) rfl ?_
  refine x_tabIn 72 rfl (by decide) (by decide) rfl rfl ?_
  refine run_ok 2 (c' := (76, [(0, .ref 48), (1, .int (nI 7))], [.int (S.1 48 32)], S)) rfl ?_
  exact x_ret (r := some (.int (S.1 48 32))) rfl rfl trivial ⟨rfl, QM.rf⟩ rfl

set_option maxHeartbeats 2000000 in
theorem m_count8 (S : ST) (T : TD) (n : Nat) (b : Nat → Nat) (n' : Nat) (b' : Nat → Nat) (hL : ML T n b n' b' S) (hto : tok T)  : EX me_R_count 9 [.ref 48, .int (nI 8)] S (fun r u => r = some (.int (S.1 48 42)) ∧ QM S u) := by
  refine EX.of mok_R_count (Nat.le_of_ble_eq_true rfl) ?_
  refine run_ok 1 (c' := (1, [(0, .ref 48), (1, .int (nI 8))], [.int (nI 8)], S)) rfl ?_
  refine x_tabIn 77 rfl (by decide) (by decide) rfl rfl ?_
  refine run_ok 2 (c' := (81, [(0, .ref 48), (1, .int (nI 8))], [.int (S.1 48 42)], S)) rfl ?_
  exact x_ret (r := some (.int (S.1 48 42))) rfl rfl trivial ⟨rfl, QM.rf⟩ rfl

set_option maxHeartbeats 2000000 in
theorem m_count_bad (S : ST) (x : Int32) (hbad : ¬ (0 ≤ x ∧ x < nI 9)) : EX me_R_count 9 [.ref 48, .int x] S (fun r u => r = some (.int (-2)) ∧ u = S) := by
  refine EX.of mok_R_count (Nat.le_of_ble_eq_true rfl) ?_
  refine run_ok 1 (c' := (1, [(0, .ref 48), (1, .int x)], [.int x], S)) rfl ?_
  refine x_tabOut 82 rfl (inr_o (n := 9) (by decide) (by decide) hbad) rfl ?_
  refine run_ok 1 (c' := (84, [(0, .ref 48), (1, .int x)], [.int (-2)], S)) rfl ?_
  exact x_ret (r := some (.int (-2))) rfl rfl trivial ⟨rfl, rfl⟩ rfl


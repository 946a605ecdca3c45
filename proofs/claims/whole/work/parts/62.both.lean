/-! changes: both answer the same, and say the same behind it -/
theorem xm0 {T : TD} {n : Nat} {b : Nat → Nat} {n' : Nat} {b' : Nat → Nat} {G : SD} {sh : Nat → Nat × Nat × Nat} {u v : ST} (hI : IV T n b n' b' G sh u) {ks : List Nat} (hf : fr ks u v) (hk : 49 ∉ ks ∧ 50 ∉ ks) : XM 0 n b v ∧ XM 1 n' b' v := ⟨hI.2.2.2.2.2.1.1.1.kp hf hk, hI.2.2.2.2.2.1.2.1.1.kp hf hk⟩
theorem pr_type (u : ST) (h : INV u) (x y : Int32) : PRi me_N_type me_R_type [.int x, .int y] u := by
  obtain ⟨T, n, b, n', b', G, sh, hI⟩ := h
  by_cases hg : (0 ≤ x ∧ x < nI 2) ∧ (0 ≤ y ∧ y < nI 256)
  · obtain ⟨g1, g2⟩ := hg
    obtain ⟨j, hj, rfl⟩ := inr_f (n := 2) (by decide) g1
    obtain ⟨c, hc, rfl⟩ := inr_f (n := 256) (by decide) g2
    rcases (show j = 0 ∨ j = 1 by omega) with rfl | rfl
    · have n47 := hI.2.2.2.2.2.1.1.2
      by_cases hnc : n = 47
      · exact PRi.ee hI (c_type_full0 u n b hI.2.2.1.1 n47 c hc hnc) (fun v hv => m_type_full0 v n b hv.2.2.2.2.2.1.1.1 n47 c hc hnc)
      · exact ⟨_, 5, _, by decide, c_type_ok0 u n b hI.2.2.1.1 n47 c hc hnc, fun r v h => ⟨h.1, 2, _, by decide, m_type_ok0 v n b (xm0 hI h.2.2.2.2.2.1 (by decide)).1 n47 c hc hnc, fun r w k => ⟨k.1, hI.t0 h.2 (by omega) k.2.1 (k.2.2.1 _ _ (by have := hI.2.2.2.2.2.1.2.1.2; omega) (xm0 hI h.2.2.2.2.2.1 (by decide)).2) k.2.2.2.1⟩⟩⟩
    · have n39 := hI.2.2.2.2.2.1.2.1.2
      by_cases hnc : n' = 39
      · exact PRi.ee hI (c_type_full1 u n' b' hI.2.2.1.2 n39 c hc hnc) (fun v hv => m_type_full1 v n' b' hv.2.2.2.2.2.1.2.1.1 n39 c hc hnc)
      · exact ⟨_, 5, _, by decide, c_type_ok1 u n' b' hI.2.2.1.2 n39 c hc hnc, fun r v h => ⟨h.1, 2, _, by decide, m_type_ok1 v n' b' (xm0 hI h.2.2.2.2.2.1 (by decide)).2 n39 c hc hnc, fun r w k => ⟨k.1, hI.t1 h.2 (by omega) (k.2.2.1 _ _ hI.2.2.2.2.2.1.1.2 (xm0 hI h.2.2.2.2.2.1 (by decide)).1) k.2.1 k.2.2.2.1⟩⟩⟩
  · exact PRi.ee hI (c_type_bad u x y hg) (fun v hv => m_type_bad v x y hg)
theorem pr_wipe (u : ST) (h : INV u) (x : Int32) : PRi me_N_wipe me_R_wipe [.int x] u := by
  obtain ⟨T, n, b, n', b', G, sh, hI⟩ := h
  by_cases hg : (0 ≤ x ∧ x < nI 2)
  · obtain ⟨j, hj, rfl⟩ := inr_f (n := 2) (by decide) hg
    rcases (show j = 0 ∨ j = 1 by omega) with rfl | rfl
    · exact ⟨_, 5, _, by decide, c_wipe_ok0 u n b hI.2.2.1.1 hI.2.2.2.2.2.1.1.2, fun r v h => ⟨h.1, 2, _, by decide, m_wipe_ok0 v n b (xm0 hI h.2.2.2.2.2.1 (by decide)).1 hI.2.2.2.2.2.1.1.2, fun r w k => ⟨k.1, hI.t0 h.2 (by decide) k.2.1 (k.2.2.1 _ _ (xm0 hI h.2.2.2.2.2.1 (by decide)).2) (k.2.2.2.1.sub (by decide))⟩⟩⟩
    · exact ⟨_, 5, _, by decide, c_wipe_ok1 u n' b' hI.2.2.1.2 hI.2.2.2.2.2.1.2.1.2, fun r v h => ⟨h.1, 2, _, by decide, m_wipe_ok1 v n' b' (xm0 hI h.2.2.2.2.2.1 (by decide)).2 hI.2.2.2.2.2.1.2.1.2, fun r w k => ⟨k.1, hI.t1 h.2 (by decide) (k.2.2.1 _ _ (xm0 hI h.2.2.2.2.2.1 (by decide)).1) k.2.1 (k.2.2.2.1.sub (by decide))⟩⟩⟩
  · exact PRi.ee hI (c_wipe_bad u x hg) (fun v hv => m_wipe_bad v x hg)
theorem pr_undo (u : ST) (h : INV u) (x : Int32) : PRi me_N_undo me_R_undo [.int x] u := by
  obtain ⟨T, n, b, n', b', G, sh, hI⟩ := h
  by_cases hg : (0 ≤ x ∧ x < nI 2)
  · obtain ⟨j, hj, rfl⟩ := inr_f (n := 2) (by decide) hg
    rcases (show j = 0 ∨ j = 1 by omega) with rfl | rfl
    · have n47 := hI.2.2.2.2.2.1.1.2
      by_cases hn0 : n = 0
      · exact PRi.ee hI (c_undo_not0 u n b hI.2.2.1.1 n47 hn0) (fun v hv => m_undo_not0 v n b hv.2.2.2.2.2.1.1.1 n47 hn0)
      · exact ⟨_, 5, _, by decide, c_undo_ok0 u n b hI.2.2.1.1 n47 hn0, fun r v h => ⟨h.1, 2, _, by decide, m_undo_ok0 v n b (xm0 hI h.2.2.2.2.2.1 (by decide)).1 n47 hn0, fun r w k => ⟨k.1, hI.t0 h.2 (by omega) k.2.1 (k.2.2.1 _ _ (xm0 hI h.2.2.2.2.2.1 (by decide)).2) (k.2.2.2.1.sub (by decide))⟩⟩⟩
    · have n39 := hI.2.2.2.2.2.1.2.1.2
      by_cases hn0 : n' = 0
      · exact PRi.ee hI (c_undo_not1 u n' b' hI.2.2.1.2 n39 hn0) (fun v hv => m_undo_not1 v n' b' hv.2.2.2.2.2.1.2.1.1 n39 hn0)
      · exact ⟨_, 5, _, by decide, c_undo_ok1 u n' b' hI.2.2.1.2 n39 hn0, fun r v h => ⟨h.1, 2, _, by decide, m_undo_ok1 v n' b' (xm0 hI h.2.2.2.2.2.1 (by decide)).2 n39 hn0, fun r w k => ⟨k.1, hI.t1 h.2 (by omega) (k.2.2.1 _ _ (xm0 hI h.2.2.2.2.2.1 (by decide)).1) k.2.1 (k.2.2.2.1.sub (by decide))⟩⟩⟩
  · exact PRi.ee hI (c_undo_bad u x hg) (fun v hv => m_undo_bad v x hg)
theorem em_of {T : TD} {n : Nat} {b : Nat → Nat} {n' : Nat} {b' : Nat → Nat} {G : SD} {sh : Nat → Nat × Nat × Nat} {u v : ST} (hI : IV T n b n' b' G sh u) {ks : List Nat} (hf : fr ks u v) (hk : 48 ∉ ks ∧ 57 ∉ ks ∧ 58 ∉ ks ∧ 59 ∉ ks) : EM T v := by
  obtain ⟨l1, l2, l3, l4, l5, l6, l7, l8, l9, l10, l11⟩ := hI.2.2.2.2.2.1
  exact ⟨l6.keep hf hk.2.1, l7.keep hf hk.2.2.1, l8.keep hf hk.2.2.2, by rw [hf 48 hk.1]; exact l9, l10⟩
theorem tok_back {T : TD} (h : tok T) : tok (wev T (tne T - 1) (tek T) (tew T) (teb T)) := ⟨h.1, Nat.le_trans (Nat.sub_le _ _) h.2.1, h.2.2.1, fun e he => h.2.2.2.1 e (Nat.lt_of_lt_of_le he (Nat.sub_le _ _)), h.2.2.2.2.1, h.2.2.2.2.2⟩
theorem pr_event (u : ST) (h : INV u) (x y z : Int32) : PRi me_N_event me_R_event [.int x, .int y, .int z] u := by
  obtain ⟨T, n, b, n', b', G, sh, hI⟩ := h
  by_cases hg : (0 ≤ x ∧ x < nI 3) ∧ (0 ≤ y ∧ y < nI 24) ∧ (0 ≤ z ∧ z < nI 8)
  · obtain ⟨g1, g2, g3⟩ := hg
    obtain ⟨k, hk, rfl⟩ := inr_f (n := 3) (by decide) g1
    obtain ⟨w, hw, rfl⟩ := inr_f (n := 24) (by decide) g2
    obtain ⟨p, hp, rfl⟩ := inr_f (n := 8) (by decide) g3
    by_cases hne : tne T < 8
    · exact ⟨_, 1, _, by decide, c_eventK u T hI.2.1 hI.1.1 k w p hk hw hp hne, fun r v h => ⟨h.1, 2, _, by decide, m_event_ok v T (em_of hI h.2.2.1 (by decide)) k w p hk hw hp hne, fun r x j => ⟨j.1, hI.ev h.2.1 (tok_wev hI.1.1 (by omega) hk hw hp) h.2.2.1 h.2.2.2.2 j.2.1 j.2.2.1 j.2.2.2.1⟩⟩⟩
    · exact PRi.ee hI (c_event_full u T hI.2.1 hI.1.1 k w p hk hw hp hne) (fun v hv => m_event_full v T (em_of hv fr.rf (ks := []) (by decide)) k w p hk hw hp hne)
  · exact PRi.ee hI (c_event_bad u x y z hg) (fun v hv => m_event_bad v x y z hg)
theorem pr_back (u : ST) (h : INV u) : PRi me_N_back me_R_back [] u := by
  obtain ⟨T, n, b, n', b', G, sh, hI⟩ := h
  by_cases hne : tne T = 0
  · exact PRi.ee hI (c_back_not u T hI.2.1 hI.1.1 hne) (fun v hv => m_back_not v T (em_of hv fr.rf (ks := []) (by decide)) hne)
  · exact ⟨_, 0, _, by decide, c_backK u T hI.2.1 hI.1.1 hne, fun r v h => ⟨h.1, 0, _, by decide, m_back_ok v T (em_of hI h.2.2.1 (by decide)) hne, fun r x j => ⟨j.1, hI.ev h.2.1 (tok_back hI.1.1) (h.2.2.1.sub (by decide)) h.2.2.2.2 j.2.1 (j.2.2.1.sub (by decide)) j.2.2.2.1⟩⟩⟩
theorem PRi.fi {T : TD} {n : Nat} {b : Nat → Nat} {n' : Nat} {b' : Nat → Nat} {G : SD} {sh : Nat → Nat × Nat × Nat} {u : ST} {mN mR : MI} {av : List Value} {D1 D2 : Nat} {z x : Int32} (hI : IV T n b n' b' G sh u) (c : EX mN D1 (.ref 0 :: av) u (fun r w => r = some (.int z) ∧ w = pt u 0 10 x)) (m : ∀ v, fr [0] u v → EX mR D2 (.ref 48 :: av) v (fun r w => r = some (.int z) ∧ w = pt v 48 42 x)) (h1 : D1 ≤ 11 := by decide) (h2 : D2 ≤ 11 := by decide) : PRi mN mR av u :=
  ⟨z, D1, _, h1, c, fun r v h => ⟨h.1, D2, _, h2, m v (by rw [h.2]; exact fr.rf.pt (by decide)), fun r w h' => ⟨h'.1, hI.fi h.2 ⟨v, QM.rf, h'.2⟩⟩⟩⟩
theorem PRi.fq {T : TD} {n : Nat} {b : Nat → Nat} {n' : Nat} {b' : Nat → Nat} {G : SD} {sh : Nat → Nat × Nat × Nat} {u : ST} {mN mR : MI} {av : List Value} {D1 D2 : Nat} {z x : Int32} (hI : IV T n b n' b' G sh u) (c : EX mN D1 (.ref 0 :: av) u (fun r w => r = some (.int z) ∧ w = pt u 0 10 x)) (m : ∀ v, fr [0] u v → EX mR D2 (.ref 48 :: av) v (fun r w => r = some (.int z) ∧ ∃ y, QM v y ∧ w = pt y 48 42 x)) (h1 : D1 ≤ 11 := by decide) (h2 : D2 ≤ 11 := by decide) : PRi mN mR av u :=
  ⟨z, D1, _, h1, c, fun r v h => ⟨h.1, D2, _, h2, m v (by rw [h.2]; exact fr.rf.pt (by decide)), fun r w h' => ⟨h'.1, hI.fi h.2 h'.2⟩⟩⟩
theorem pr_read (u : ST) (h : INV u) (x : Int32) : PRi me_N_read me_R_read [.int x] u := by
  obtain ⟨T, n, b, n', b', G, sh, hI⟩ := h
  by_cases hg : (0 ≤ x ∧ x < nI 4)
  · obtain ⟨j, hj, rfl⟩ := inr_f (n := 4) (by decide) hg
    rcases (show j = 0 ∨ j = 1 ∨ j = 2 ∨ j = 3 by omega) with rfl | rfl | rfl | rfl
    · obtain ⟨r1, r2, r3⟩ := hI.2.2.2.2.2.2.2.1 0 (by decide)
      by_cases hlo : (sh 0).1 = 0
      · refine ⟨_, 2, _, by decide, c_readK0 u T hI.2.1 hI.1.1 _ _ _ r1 hlo, fun r v h => ⟨h.1, 3, _, by decide, m_read_ok v T (em_of hI h.2.2.2.1 (by decide)) 0 (by decide) _ _ _ (r2.keep h.2.2.2.1 (by decide)) hlo (u.1 39) (fun j hj => ?_), fun r x k => ⟨k.1, ?_⟩⟩⟩
        · rw [h.2.2.2.1 81 (by decide)]
          exact (r3 j (Nat.lt_of_lt_of_le hj r1.2.2.2.2.2)).symm
        · obtain ⟨ne, ek, ew, eb, e⟩ := rdf_wev (u.1 39) ((sh 0).2.2 / 3) 0 T
          rw [e] at h k
          exact hI.ev h.2.1 h.2.2.1 h.2.2.2.1 h.2.2.2.2.2 k.2.1 k.2.2.1 k.2.2.2.1
      · exact PRi.fi hI (c_read_null0 u _ _ _ r1 (by have := r1.2.2.2.1; omega)) (fun v hf => m_read_null v 0 (by decide) _ _ _ (r2.keep hf (by decide)) (by have := r1.2.2.2.1; omega))
    · obtain ⟨r1, r2, r3⟩ := hI.2.2.2.2.2.2.2.1 1 (by decide)
      by_cases hlo : (sh 1).1 = 0
      · refine ⟨_, 2, _, by decide, c_readK1 u T hI.2.1 hI.1.1 _ _ _ r1 hlo, fun r v h => ⟨h.1, 3, _, by decide, m_read_ok v T (em_of hI h.2.2.2.1 (by decide)) 1 (by decide) _ _ _ (r2.keep h.2.2.2.1 (by decide)) hlo (u.1 41) (fun j hj => ?_), fun r x k => ⟨k.1, ?_⟩⟩⟩
        · rw [h.2.2.2.1 81 (by decide)]
          exact (r3 j (Nat.lt_of_lt_of_le hj r1.2.2.2.2.2)).symm
        · obtain ⟨ne, ek, ew, eb, e⟩ := rdf_wev (u.1 41) ((sh 1).2.2 / 3) 0 T
          rw [e] at h k
          exact hI.ev h.2.1 h.2.2.1 h.2.2.2.1 h.2.2.2.2.2 k.2.1 k.2.2.1 k.2.2.2.1
      · exact PRi.fi hI (c_read_null1 u _ _ _ r1 (by have := r1.2.2.2.1; omega)) (fun v hf => m_read_null v 1 (by decide) _ _ _ (r2.keep hf (by decide)) (by have := r1.2.2.2.1; omega))
    · obtain ⟨r1, r2, r3⟩ := hI.2.2.2.2.2.2.2.1 2 (by decide)
      by_cases hlo : (sh 2).1 = 0
      · refine ⟨_, 2, _, by decide, c_readK2 u T hI.2.1 hI.1.1 _ _ _ r1 hlo, fun r v h => ⟨h.1, 3, _, by decide, m_read_ok v T (em_of hI h.2.2.2.1 (by decide)) 2 (by decide) _ _ _ (r2.keep h.2.2.2.1 (by decide)) hlo (u.1 43) (fun j hj => ?_), fun r x k => ⟨k.1, ?_⟩⟩⟩
        · rw [h.2.2.2.1 81 (by decide)]
          exact (r3 j (Nat.lt_of_lt_of_le hj r1.2.2.2.2.2)).symm
        · obtain ⟨ne, ek, ew, eb, e⟩ := rdf_wev (u.1 43) ((sh 2).2.2 / 3) 0 T
          rw [e] at h k
          exact hI.ev h.2.1 h.2.2.1 h.2.2.2.1 h.2.2.2.2.2 k.2.1 k.2.2.1 k.2.2.2.1
      · exact PRi.fi hI (c_read_null2 u _ _ _ r1 (by have := r1.2.2.2.1; omega)) (fun v hf => m_read_null v 2 (by decide) _ _ _ (r2.keep hf (by decide)) (by have := r1.2.2.2.1; omega))
    · obtain ⟨r1, r2, r3⟩ := hI.2.2.2.2.2.2.2.1 3 (by decide)
      by_cases hlo : (sh 3).1 = 0
      · refine ⟨_, 2, _, by decide, c_readK3 u T hI.2.1 hI.1.1 _ _ _ r1 hlo, fun r v h => ⟨h.1, 3, _, by decide, m_read_ok v T (em_of hI h.2.2.2.1 (by decide)) 3 (by decide) _ _ _ (r2.keep h.2.2.2.1 (by decide)) hlo (u.1 45) (fun j hj => ?_), fun r x k => ⟨k.1, ?_⟩⟩⟩
        · rw [h.2.2.2.1 81 (by decide)]
          exact (r3 j (Nat.lt_of_lt_of_le hj r1.2.2.2.2.2)).symm
        · obtain ⟨ne, ek, ew, eb, e⟩ := rdf_wev (u.1 45) ((sh 3).2.2 / 3) 0 T
          rw [e] at h k
          exact hI.ev h.2.1 h.2.2.1 h.2.2.2.1 h.2.2.2.2.2 k.2.1 k.2.2.1 k.2.2.2.1
      · exact PRi.fi hI (c_read_null3 u _ _ _ r1 (by have := r1.2.2.2.1; omega)) (fun v hf => m_read_null v 3 (by decide) _ _ _ (r2.keep hf (by decide)) (by have := r1.2.2.2.1; omega))
  · exact PRi.ee hI (c_read_bad u x hg) (fun v hv => m_read_bad v x hg)
theorem sok_add {G : SD} (h : sok G) (h8 : G.1 < 8) {w b p : Nat} (hw : w < 24) (hb : b < 8) (hp : p < 9) : sok (G.1 + 1, upn G.2.1 G.1 w, upn G.2.2.1 G.1 b, upn G.2.2.2 G.1 p) := by
  refine ⟨h8, fun i hi => ?_⟩
  show upn G.2.1 G.1 w i < 24 ∧ upn G.2.2.1 G.1 b i < 8 ∧ upn G.2.2.2 G.1 p i ≤ 8
  have hi' : i < G.1 + 1 := hi
  unfold upn
  by_cases e : i = G.1
  · rw [if_pos e, if_pos e, if_pos e]
    exact ⟨hw, hb, by omega⟩
  · rw [if_neg e, if_neg e, if_neg e]
    exact h.2 i (by omega)
theorem pr_seen (u : ST) (h : INV u) (x y z : Int32) : PRi me_N_seen me_R_seen [.int x, .int y, .int z] u := by
  obtain ⟨T, n, b, n', b', G, sh, hI⟩ := h
  by_cases hg : (0 ≤ x ∧ x < nI 24) ∧ (0 ≤ y ∧ y < nI 8) ∧ (0 ≤ z ∧ z < nI 9)
  · obtain ⟨g1, g2, g3⟩ := hg
    obtain ⟨w, hw, rfl⟩ := inr_f (n := 24) (by decide) g1
    obtain ⟨k, hk, rfl⟩ := inr_f (n := 8) (by decide) g2
    obtain ⟨p, hp, rfl⟩ := inr_f (n := 9) (by decide) g3
    by_cases hG : G.1 < 8
    · exact ⟨_, 1, _, by decide, c_seen_ok u G w k p hw hk hp hI.2.2.2.2.1 hG, fun r v h => ⟨h.1, 2, _, by decide, m_seen_ok v G w k p hw hk hp (hI.2.2.2.2.2.2.1.keep h.2.2.1 (by decide) (by rw [h.2.2.1 48 (by decide)])) hG, fun r x j => ⟨j.1, hI.sn (sok_add hI.1.2 hG hw hk hp) h.2.1 h.2.2.1 j.2.1 j.2.2.1 j.2.2.2.1⟩⟩⟩
    · exact PRi.ee hI (c_seen_full u G w k p hw hk hp hI.2.2.2.2.1 (by have := hI.1.2.1; omega)) (fun v hv => m_seen_full v G w k p hw hk hp hv.2.2.2.2.2.2.1 (by have := hI.1.2.1; omega))
  · exact PRi.ee hI (c_seen_bad u x y z hg) (fun v hv => m_seen_bad v x y z hg)
theorem pr_forget (u : ST) (h : INV u) : PRi me_N_forget me_R_forget [] u := by
  obtain ⟨T, n, b, n', b', G, sh, hI⟩ := h
  exact ⟨_, 0, _, by decide, c_forget u G hI.2.2.2.2.1, fun r v h => ⟨h.1, 0, _, by decide, m_forget v G (hI.2.2.2.2.2.2.1.keep h.2.2.1 (by decide) (by rw [h.2.2.1 48 (by decide)])), fun r x j => ⟨j.1, hI.sn ⟨Nat.zero_le _, fun i hi => absurd hi (Nat.not_lt_zero _)⟩ h.2.1 (h.2.2.1.sub (by decide)) j.2.1 (j.2.2.1.sub (by decide)) j.2.2.2.1⟩⟩⟩

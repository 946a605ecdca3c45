/-! sheets: both answer the same -/
theorem slk : ∀ q, q < 4 → 38 + 2 * q ∈ SL ∧ 39 + 2 * q ∈ SL := by decide
theorem fnd_in {lo fm sz f : Nat} {x : Int32} (h : fnd lo fm sz f x = 0) : 0 ≤ x ∧ x < nI sz := by
  unfold fnd at h
  split at h
  · omega
  · split at h
    · omega
    · split at h
      · assumption
      · omega
/-- one sheet has changed, nothing else -/
theorem IV.s1 {T : TD} {n : Nat} {b : Nat → Nat} {n' : Nat} {b' : Nat → Nat} {G : SD} {sh : Nat → Nat × Nat × Nat} {u : ST} {w : ST} (hI : IV T n b n' b' G sh u) (q lo fm sz : Nat) (hq : q < 4) (ho : ∀ k, k ∉ SL → w.1 k = u.1 k) (h0 : w.1 0 = u.1 0) (h48 : f48 MF u w) (hr : HR (38 + 2 * q) lo fm sz w) (hm : HM q lo fm sz w) (hi : ∀ j, j < 60 → w.1 (39 + 2 * q) j = w.1 81 (60 * q + j)) (h1 : ∀ s, s < 4 → s ≠ q → w.1 (38 + 2 * s) = u.1 (38 + 2 * s) ∧ w.1 (39 + 2 * s) = u.1 (39 + 2 * s)) (h2 : ∀ s, s < 4 → s ≠ q → w.1 78 s = u.1 78 s ∧ w.1 79 s = u.1 79 s ∧ w.1 80 s = u.1 80 s) (h3 : ∀ x, ¬ (60 * q ≤ x ∧ x < 60 * q + 60) → w.1 81 x = u.1 81 x) : INV w :=
  hI.hs ho (h48.sub (fun k hk => List.mem_cons_of_mem _ hk)) (SHS.one hI.2.2.2.2.2.2.2.1 q lo fm sz hr hm hi h1 h2 h3) (by rw [h0, h48 42 (by decide)]; exact hI.2.2.2.2.2.2.2.2)
theorem ptn {u : ST} {k k' e : Nat} {x : Int32} (h : k ≠ k') : (pt u k' e x).1 k = u.1 k := if_neg h
theorem IV.lose {T : TD} {n : Nat} {b : Nat → Nat} {n' : Nat} {b' : Nat → Nat} {G : SD} {sh : Nat → Nat × Nat × Nat} {u : ST} (hI : IV T n b n' b' G sh u) (q : Nat) (hq : q < 4) : INV (pt (pt u (38 + 2 * q) 3 (nI 1)) 78 q (nI 0)) := by
  obtain ⟨r1, r2, r3⟩ := hI.2.2.2.2.2.2.2.1 q hq
  have e : ∀ k, k ≠ 78 → k ≠ 38 + 2 * q → (pt (pt u (38 + 2 * q) 3 (nI 1)) 78 q (nI 0)).1 k = u.1 k := fun k a c => (ptn a).trans (ptn c)
  have s := slk q hq
  have e78 : (pt (pt u (38 + 2 * q) 3 (nI 1)) 78 q (nI 0)).1 78 = upd (u.1 78) q (nI 0) := by rw [pt_at, ptn (by omega)]
  have e38 : (pt (pt u (38 + 2 * q) 3 (nI 1)) 78 q (nI 0)).1 (38 + 2 * q) = upd (u.1 (38 + 2 * q)) 3 (nI 1) := by rw [ptn (by omega), pt_at]
  refine hI.s1 q 1 (sh q).2.1 (sh q).2.2 hq (fun k hk => e k (fun z => hk (by rw [z]; decide)) (fun z => hk (by rw [z]; exact s.1))) (e 0 (by decide) (by omega)) (fun j _ => by rw [e 48 (by decide) (by omega)]) ?_ ?_ (fun j hj => ?_) (fun s hs hn => ⟨e _ (by omega) (by omega), e _ (by omega) (by omega)⟩) (fun s hs hn => ⟨?_, by rw [e 79 (by decide) (by omega)], by rw [e 80 (by decide) (by omega)]⟩) (fun x _ => by rw [e 81 (by decide) (by omega)])
  · refine ⟨?_, ?_, ?_, by decide, r1.2.2.2.2⟩
    · rw [e38]; rfl
    · rw [e38]; exact r1.2.1
    · rw [e38]; exact r1.2.2.1
  · refine ⟨?_, ?_, ?_, by decide, r1.2.2.2.2⟩
    · rw [e78]; exact if_pos rfl
    · rw [e 79 (by decide) (by omega)]; exact r2.2.1
    · rw [e 80 (by decide) (by omega)]; exact r2.2.2.1
  · rw [e (39 + 2 * q) (by omega) (by omega), e 81 (by decide) (by omega)]
    exact r3 j hj
  · rw [e78]; exact if_neg hn
theorem IV.put {T : TD} {n : Nat} {b : Nat → Nat} {n' : Nat} {b' : Nat → Nat} {G : SD} {sh : Nat → Nat × Nat × Nat} {u : ST} (hI : IV T n b n' b' G sh u) (q : Nat) (hq : q < 4) (i : Nat) (hi : i < 60) (x : Int32) : INV (pt (pt u (39 + 2 * q) i x) 81 (60 * q + i) x) := by
  obtain ⟨r1, r2, r3⟩ := hI.2.2.2.2.2.2.2.1 q hq
  have e : ∀ k, k ≠ 81 → k ≠ 39 + 2 * q → (pt (pt u (39 + 2 * q) i x) 81 (60 * q + i) x).1 k = u.1 k := fun k a c => (ptn a).trans (ptn c)
  have s := slk q hq
  have e81 : (pt (pt u (39 + 2 * q) i x) 81 (60 * q + i) x).1 81 = upd (u.1 81) (60 * q + i) x := by rw [pt_at, ptn (by omega)]
  have e39 : (pt (pt u (39 + 2 * q) i x) 81 (60 * q + i) x).1 (39 + 2 * q) = upd (u.1 (39 + 2 * q)) i x := by rw [ptn (by omega), pt_at]
  refine hI.s1 q (sh q).1 (sh q).2.1 (sh q).2.2 hq (fun k hk => e k (fun z => hk (by rw [z]; decide)) (fun z => hk (by rw [z]; exact s.2))) (e 0 (by decide) (by omega)) (fun j _ => by rw [e 48 (by decide) (by omega)]) (r1.kp (e _ (by omega) (by omega))) ⟨by rw [e 78 (by decide) (by omega)]; exact r2.1, by rw [e 79 (by decide) (by omega)]; exact r2.2.1, by rw [e 80 (by decide) (by omega)]; exact r2.2.2.1, r2.2.2.2⟩ (fun j hj => ?_) (fun s hs hn => ⟨e _ (by omega) (by omega), e _ (by omega) (by omega)⟩) (fun s hs hn => ⟨by rw [e 78 (by decide) (by omega)], by rw [e 79 (by decide) (by omega)], by rw [e 80 (by decide) (by omega)]⟩) (fun y hy => ?_)
  · rw [e39, e81]
    unfold upd
    by_cases c : j = i
    · rw [if_pos c, if_pos (by omega)]
    · rw [if_neg c, if_neg (by omega)]
      exact r3 j hj
  · rw [e81]
    exact if_neg (by omega)
theorem IV.sheet {T : TD} {n : Nat} {b : Nat → Nat} {n' : Nat} {b' : Nat → Nat} {G : SD} {sh : Nat → Nat × Nat × Nat} {u : ST} {v w : ST} (hI : IV T n b n' b' G sh u) (q f m : Nat) (hq : q < 4) (hf3 : f < 3) (hm : m ≤ 60) (a1 : ∀ j, j < 60 → v.1 (39 + 2 * q) j = nI 0) (a2 : v.1 (38 + 2 * q) 1 = nI f ∧ v.1 (38 + 2 * q) 2 = nI m ∧ v.1 (38 + 2 * q) 3 = nI 0) (a3 : fr [38 + 2 * q, 39 + 2 * q] u v) (b1 : HM q 0 f m w) (b2 : ∀ j, j < 60 → w.1 81 (60 * q + j) = nI 0) (b3 : ∀ x, ¬ (60 * q ≤ x ∧ x < 60 * q + 60) → w.1 81 x = v.1 81 x) (b4 : ∀ t lo fm sz, t ≠ q → HM t lo fm sz v → HM t lo fm sz w) (b5 : fr [78, 79, 80, 81] v w) : INV w := by
  have s := slk q hq
  have e : ∀ k, k ∉ [78, 79, 80, 81] → k ≠ 38 + 2 * q → k ≠ 39 + 2 * q → w.1 k = u.1 k := fun k c d g => (b5 k c).trans (a3 k (by simp only [List.mem_cons, List.not_mem_nil, or_false]; omega))
  have e38 : w.1 (38 + 2 * q) = v.1 (38 + 2 * q) := b5 _ (by simp only [List.mem_cons, List.not_mem_nil, or_false]; omega)
  have e39 : w.1 (39 + 2 * q) = v.1 (39 + 2 * q) := b5 _ (by simp only [List.mem_cons, List.not_mem_nil, or_false]; omega)
  have ev : ∀ k, k ∈ [48, 78, 79, 80, 81] → v.1 k = u.1 k := fun k hk => a3 k (by simp only [List.mem_cons, List.not_mem_nil, or_false] at hk ⊢; omega)
  have hs : ∀ t, t < 4 → t ≠ q → HM t (sh t).1 (sh t).2.1 (sh t).2.2 w := fun t ht hn => b4 t _ _ _ hn (by
    obtain ⟨r1, r2, r3⟩ := hI.2.2.2.2.2.2.2.1 t ht
    exact ⟨by rw [ev 78 (by decide)]; exact r2.1, by rw [ev 79 (by decide)]; exact r2.2.1, by rw [ev 80 (by decide)]; exact r2.2.2.1, r2.2.2.2⟩)
  have hu : ∀ t, t < 4 → HM t (sh t).1 (sh t).2.1 (sh t).2.2 u := fun t ht => (hI.2.2.2.2.2.2.2.1 t ht).2.1
  refine hI.s1 q 0 f m hq (fun k hk => e k (fun z => hk ((by decide : ∀ k ∈ [78, 79, 80, 81], k ∈ SL) k z)) (fun z => hk (by rw [z]; exact s.1)) (fun z => hk (by rw [z]; exact s.2))) (e 0 (by decide) (by omega) (by omega)) (fun j _ => by rw [e 48 (by decide) (by omega) (by omega)]) ⟨by rw [e38]; exact a2.2.2, by rw [e38]; exact a2.1, by rw [e38]; exact a2.2.1, by decide, by omega, hm⟩ b1 (fun j hj => by rw [e39, a1 j hj, b2 j hj]) (fun t ht hn => ⟨e _ (by simp only [List.mem_cons, List.not_mem_nil, or_false]; omega) (by omega) (by omega), e _ (by simp only [List.mem_cons, List.not_mem_nil, or_false]; omega) (by omega) (by omega)⟩) (fun t ht hn => ⟨(hs t ht hn).1.trans (hu t ht).1.symm, (hs t ht hn).2.1.trans (hu t ht).2.1.symm, (hs t ht hn).2.2.1.trans (hu t ht).2.2.1.symm⟩) (fun x hx => by rw [b3 x hx, ev 81 (by decide)])
/-- the items of one sheet have changed -/
theorem IV.items {T : TD} {n : Nat} {b : Nat → Nat} {n' : Nat} {b' : Nat → Nat} {G : SD} {sh : Nat → Nat × Nat × Nat} {u : ST} {v w : ST} (hI : IV T n b n' b' G sh u) (q : Nat) (hq : q < 4) {ks js : List Nat} (a1 : ∀ k, k ∉ (39 + 2 * q) :: ks → v.1 k = u.1 k) (hks : ∀ k ∈ ks, k ∈ CQ) (b1 : fr js v w) (hjs : ∀ k ∈ js, k = 81 ∨ k = 82 ∨ k ∈ MQL) (b2 : f48 MF v w) (h : ∀ j, j < 60 → v.1 (39 + 2 * q) j = w.1 81 (60 * q + j)) (h3 : ∀ x, ¬ (60 * q ≤ x ∧ x < 60 * q + 60) → w.1 81 x = u.1 81 x) : INV w := by
  obtain ⟨r1, r2, r3⟩ := hI.2.2.2.2.2.2.2.1 q hq
  have s := slk q hq
  have hj : ∀ k, k ≠ 81 → k ≠ 82 → k ∉ MQL → k ∉ js := fun k a c d z => by rcases hjs k z with z | z | z; exact a z; exact c z; exact d z
  have e : ∀ k, k ≠ 81 → k ≠ 82 → k ∉ MQL → k ∉ CQ → k ≠ 39 + 2 * q → w.1 k = u.1 k := fun k a c d g i => (b1 k (hj k a c d)).trans (a1 k (fun z => by rcases List.mem_cons.mp z with z | z; exact i z; exact g (hks k z)))
  have hk : ∀ t, t < 4 → (38 + 2 * t ∉ MQL ∧ 39 + 2 * t ∉ MQL) ∧ (38 + 2 * t ∉ CQ ∧ 39 + 2 * t ∉ CQ) := by decide
  refine hI.s1 q (sh q).1 (sh q).2.1 (sh q).2.2 hq (fun k hk2 => e k (fun z => hk2 (by rw [z]; decide)) (fun z => hk2 (by rw [z]; decide)) (fun z => hk2 (List.mem_append_right _ (List.mem_append_right _ z))) (fun z => hk2 (List.mem_append_right _ (List.mem_append_left _ z))) (fun z => hk2 (by rw [z]; exact s.2))) (e 0 (by decide) (by decide) (by decide) (by decide) (by omega)) (fun j hj2 => (b2 j hj2).trans (by rw [a1 48 (fun z => by rcases List.mem_cons.mp z with z | z; omega; exact absurd (hks 48 z) (by decide))])) (r1.kp (e _ (by omega) (by omega) (hk q hq).1.1 (hk q hq).2.1 (by omega))) ⟨by rw [e 78 (by decide) (by decide) (by decide) (by decide) (by omega)]; exact r2.1, by rw [e 79 (by decide) (by decide) (by decide) (by decide) (by omega)]; exact r2.2.1, by rw [e 80 (by decide) (by decide) (by decide) (by decide) (by omega)]; exact r2.2.2.1, r2.2.2.2⟩ (fun j hj3 => ?_) (fun t ht hn => ⟨e _ (by omega) (by omega) (hk t ht).1.1 (hk t ht).2.1 (by omega), e _ (by omega) (by omega) (hk t ht).1.2 (hk t ht).2.2 (by omega)⟩) (fun t ht hn => ⟨by rw [e 78 (by decide) (by decide) (by decide) (by decide) (by omega)], by rw [e 79 (by decide) (by decide) (by decide) (by decide) (by omega)], by rw [e 80 (by decide) (by decide) (by decide) (by decide) (by omega)]⟩) h3
  rw [b1 _ (hj _ (by omega) (by omega) (hk q hq).1.2)]
  exact h j hj3
theorem pr_sheet (u : ST) (h : INV u) (x y z : Int32) : PRi me_N_sheet me_R_sheet [.int x, .int y, .int z] u := by
  obtain ⟨T, n, b, n', b', G, sh, hI⟩ := h
  by_cases hg : (0 ≤ x ∧ x < nI 4) ∧ (0 ≤ y ∧ y < nI 3) ∧ z ≤ nI 60
  · obtain ⟨g1, g2, g3⟩ := hg
    obtain ⟨j, hj, rfl⟩ := inr_f (n := 4) (by decide) g1
    obtain ⟨f, hf, rfl⟩ := inr_f (n := 3) (by decide) g2
    by_cases hz : z < 0
    · rcases (show j = 0 ∨ j = 1 ∨ j = 2 ∨ j = 3 by omega) with rfl | rfl | rfl | rfl
      · exact PRi.fi hI (c_sheet_neg0 u f z hf hz) (fun v _ => m_sheet_neg v 0 (by decide) f z hf g3 hz)
      · exact PRi.fi hI (c_sheet_neg1 u f z hf hz) (fun v _ => m_sheet_neg v 1 (by decide) f z hf g3 hz)
      · exact PRi.fi hI (c_sheet_neg2 u f z hf hz) (fun v _ => m_sheet_neg v 2 (by decide) f z hf g3 hz)
      · exact PRi.fi hI (c_sheet_neg3 u f z hf hz) (fun v _ => m_sheet_neg v 3 (by decide) f z hf g3 hz)
    · obtain ⟨m, hm, rfl⟩ := nI_of2 (n := 60) (by decide) hz g3
      rcases (show j = 0 ∨ j = 1 ∨ j = 2 ∨ j = 3 by omega) with rfl | rfl | rfl | rfl
      · exact ⟨_, 2, _, by decide, c_sheet_ok0 u f m hf hm, fun r v h => ⟨h.1, 2, _, by decide, m_sheet_ok v 0 (by decide) f m hf hm, fun r w k => ⟨k.1, hI.sheet (v := v) 0 f m (by decide) hf hm h.2.1 ⟨h.2.2.1, h.2.2.2.1, h.2.2.2.2.1⟩ h.2.2.2.2.2.1 k.2.1 k.2.2.1 k.2.2.2.1 k.2.2.2.2.1 k.2.2.2.2.2.1⟩⟩⟩
      · exact ⟨_, 2, _, by decide, c_sheet_ok1 u f m hf hm, fun r v h => ⟨h.1, 2, _, by decide, m_sheet_ok v 1 (by decide) f m hf hm, fun r w k => ⟨k.1, hI.sheet (v := v) 1 f m (by decide) hf hm h.2.1 ⟨h.2.2.1, h.2.2.2.1, h.2.2.2.2.1⟩ h.2.2.2.2.2.1 k.2.1 k.2.2.1 k.2.2.2.1 k.2.2.2.2.1 k.2.2.2.2.2.1⟩⟩⟩
      · exact ⟨_, 2, _, by decide, c_sheet_ok2 u f m hf hm, fun r v h => ⟨h.1, 2, _, by decide, m_sheet_ok v 2 (by decide) f m hf hm, fun r w k => ⟨k.1, hI.sheet (v := v) 2 f m (by decide) hf hm h.2.1 ⟨h.2.2.1, h.2.2.2.1, h.2.2.2.2.1⟩ h.2.2.2.2.2.1 k.2.1 k.2.2.1 k.2.2.2.1 k.2.2.2.2.1 k.2.2.2.2.2.1⟩⟩⟩
      · exact ⟨_, 2, _, by decide, c_sheet_ok3 u f m hf hm, fun r v h => ⟨h.1, 2, _, by decide, m_sheet_ok v 3 (by decide) f m hf hm, fun r w k => ⟨k.1, hI.sheet (v := v) 3 f m (by decide) hf hm h.2.1 ⟨h.2.2.1, h.2.2.2.1, h.2.2.2.2.1⟩ h.2.2.2.2.2.1 k.2.1 k.2.2.1 k.2.2.2.1 k.2.2.2.2.1 k.2.2.2.2.2.1⟩⟩⟩
  · exact PRi.ee hI (c_sheet_bad u x y z hg) (fun v hv => m_sheet_bad v x y z hg)
theorem pr_lose (u : ST) (h : INV u) (x : Int32) : PRi me_N_lose me_R_lose [.int x] u := by
  obtain ⟨T, n, b, n', b', G, sh, hI⟩ := h
  by_cases hg : (0 ≤ x ∧ x < nI 4)
  · obtain ⟨j, hj, rfl⟩ := inr_f (n := 4) (by decide) hg
    rcases (show j = 0 ∨ j = 1 ∨ j = 2 ∨ j = 3 by omega) with rfl | rfl | rfl | rfl
    · obtain ⟨r1, r2, r3⟩ := hI.2.2.2.2.2.2.2.1 0 (by decide)
      by_cases hlo : (sh 0).1 = 0
      · exact ⟨_, 2, _, by decide, c_lose_ok0 u _ _ _ r1 hlo, fun r v h => ⟨h.1, 2, _, by decide, m_lose_ok v 0 (by decide) _ _ _ (r2.keep (ks := [38]) (by rw [h.2]; exact fr.rf.pt (by decide)) (by decide)) hlo, fun r w k => ⟨k.1, by rw [k.2, h.2]; exact hI.lose 0 (by decide)⟩⟩⟩
      · exact PRi.fi hI (c_lose_null0 u _ _ _ r1 (by have := r1.2.2.2.1; omega)) (fun v hf => m_lose_null v 0 (by decide) _ _ _ (r2.keep hf (by decide)) (by have := r1.2.2.2.1; omega))
    · obtain ⟨r1, r2, r3⟩ := hI.2.2.2.2.2.2.2.1 1 (by decide)
      by_cases hlo : (sh 1).1 = 0
      · exact ⟨_, 2, _, by decide, c_lose_ok1 u _ _ _ r1 hlo, fun r v h => ⟨h.1, 2, _, by decide, m_lose_ok v 1 (by decide) _ _ _ (r2.keep (ks := [40]) (by rw [h.2]; exact fr.rf.pt (by decide)) (by decide)) hlo, fun r w k => ⟨k.1, by rw [k.2, h.2]; exact hI.lose 1 (by decide)⟩⟩⟩
      · exact PRi.fi hI (c_lose_null1 u _ _ _ r1 (by have := r1.2.2.2.1; omega)) (fun v hf => m_lose_null v 1 (by decide) _ _ _ (r2.keep hf (by decide)) (by have := r1.2.2.2.1; omega))
    · obtain ⟨r1, r2, r3⟩ := hI.2.2.2.2.2.2.2.1 2 (by decide)
      by_cases hlo : (sh 2).1 = 0
      · exact ⟨_, 2, _, by decide, c_lose_ok2 u _ _ _ r1 hlo, fun r v h => ⟨h.1, 2, _, by decide, m_lose_ok v 2 (by decide) _ _ _ (r2.keep (ks := [42]) (by rw [h.2]; exact fr.rf.pt (by decide)) (by decide)) hlo, fun r w k => ⟨k.1, by rw [k.2, h.2]; exact hI.lose 2 (by decide)⟩⟩⟩
      · exact PRi.fi hI (c_lose_null2 u _ _ _ r1 (by have := r1.2.2.2.1; omega)) (fun v hf => m_lose_null v 2 (by decide) _ _ _ (r2.keep hf (by decide)) (by have := r1.2.2.2.1; omega))
    · obtain ⟨r1, r2, r3⟩ := hI.2.2.2.2.2.2.2.1 3 (by decide)
      by_cases hlo : (sh 3).1 = 0
      · exact ⟨_, 2, _, by decide, c_lose_ok3 u _ _ _ r1 hlo, fun r v h => ⟨h.1, 2, _, by decide, m_lose_ok v 3 (by decide) _ _ _ (r2.keep (ks := [44]) (by rw [h.2]; exact fr.rf.pt (by decide)) (by decide)) hlo, fun r w k => ⟨k.1, by rw [k.2, h.2]; exact hI.lose 3 (by decide)⟩⟩⟩
      · exact PRi.fi hI (c_lose_null3 u _ _ _ r1 (by have := r1.2.2.2.1; omega)) (fun v hf => m_lose_null v 3 (by decide) _ _ _ (r2.keep hf (by decide)) (by have := r1.2.2.2.1; omega))
  · exact PRi.ee hI (c_lose_bad u x hg) (fun v hv => m_lose_bad v x hg)
theorem pr_put (u : ST) (h : INV u) (x y z c : Int32) : PRi me_N_put me_R_put [.int x, .int y, .int z, .int c] u := by
  obtain ⟨T, n, b, n', b', G, sh, hI⟩ := h
  by_cases hg : (0 ≤ x ∧ x < nI 4) ∧ (0 ≤ y ∧ y < nI 3)
  · obtain ⟨g1, g2⟩ := hg
    obtain ⟨j, hj, rfl⟩ := inr_f (n := 4) (by decide) g1
    obtain ⟨f, hf, rfl⟩ := inr_f (n := 3) (by decide) g2
    rcases (show j = 0 ∨ j = 1 ∨ j = 2 ∨ j = 3 by omega) with rfl | rfl | rfl | rfl
    · obtain ⟨r1, r2, r3⟩ := hI.2.2.2.2.2.2.2.1 0 (by decide)
      by_cases hfn : fnd (sh 0).1 (sh 0).2.1 (sh 0).2.2 f z = 0
      · obtain ⟨i, hi, rfl⟩ := inr_f (by have := r1.2.2.2.2.2; omega) (fnd_in hfn)
        have hi60 : i < 60 := Nat.lt_of_lt_of_le hi r1.2.2.2.2.2
        exact ⟨_, 2, _, by decide, c_put_ok0 u _ _ _ r1 f i c hf hi60 hfn, fun r v h => ⟨h.1, 2, _, by decide, m_put_ok v 0 (by decide) _ _ _ (r2.keep (ks := [39]) (by rw [h.2]; exact fr.rf.pt (by decide)) (by decide)) f i c hf hi60 hfn, fun r w k => ⟨k.1, by rw [k.2, h.2]; exact hI.put 0 (by decide) i hi60 _⟩⟩⟩
      · exact PRi.fi hI (c_put_f0 u _ _ _ r1 f z c hf hfn) (fun v hf2 => m_put_f v 0 (by decide) _ _ _ (r2.keep hf2 (by decide)) f z c hf hfn)
    · obtain ⟨r1, r2, r3⟩ := hI.2.2.2.2.2.2.2.1 1 (by decide)
      by_cases hfn : fnd (sh 1).1 (sh 1).2.1 (sh 1).2.2 f z = 0
      · obtain ⟨i, hi, rfl⟩ := inr_f (by have := r1.2.2.2.2.2; omega) (fnd_in hfn)
        have hi60 : i < 60 := Nat.lt_of_lt_of_le hi r1.2.2.2.2.2
        exact ⟨_, 2, _, by decide, c_put_ok1 u _ _ _ r1 f i c hf hi60 hfn, fun r v h => ⟨h.1, 2, _, by decide, m_put_ok v 1 (by decide) _ _ _ (r2.keep (ks := [41]) (by rw [h.2]; exact fr.rf.pt (by decide)) (by decide)) f i c hf hi60 hfn, fun r w k => ⟨k.1, by rw [k.2, h.2]; exact hI.put 1 (by decide) i hi60 _⟩⟩⟩
      · exact PRi.fi hI (c_put_f1 u _ _ _ r1 f z c hf hfn) (fun v hf2 => m_put_f v 1 (by decide) _ _ _ (r2.keep hf2 (by decide)) f z c hf hfn)
    · obtain ⟨r1, r2, r3⟩ := hI.2.2.2.2.2.2.2.1 2 (by decide)
      by_cases hfn : fnd (sh 2).1 (sh 2).2.1 (sh 2).2.2 f z = 0
      · obtain ⟨i, hi, rfl⟩ := inr_f (by have := r1.2.2.2.2.2; omega) (fnd_in hfn)
        have hi60 : i < 60 := Nat.lt_of_lt_of_le hi r1.2.2.2.2.2
        exact ⟨_, 2, _, by decide, c_put_ok2 u _ _ _ r1 f i c hf hi60 hfn, fun r v h => ⟨h.1, 2, _, by decide, m_put_ok v 2 (by decide) _ _ _ (r2.keep (ks := [43]) (by rw [h.2]; exact fr.rf.pt (by decide)) (by decide)) f i c hf hi60 hfn, fun r w k => ⟨k.1, by rw [k.2, h.2]; exact hI.put 2 (by decide) i hi60 _⟩⟩⟩
      · exact PRi.fi hI (c_put_f2 u _ _ _ r1 f z c hf hfn) (fun v hf2 => m_put_f v 2 (by decide) _ _ _ (r2.keep hf2 (by decide)) f z c hf hfn)
    · obtain ⟨r1, r2, r3⟩ := hI.2.2.2.2.2.2.2.1 3 (by decide)
      by_cases hfn : fnd (sh 3).1 (sh 3).2.1 (sh 3).2.2 f z = 0
      · obtain ⟨i, hi, rfl⟩ := inr_f (by have := r1.2.2.2.2.2; omega) (fnd_in hfn)
        have hi60 : i < 60 := Nat.lt_of_lt_of_le hi r1.2.2.2.2.2
        exact ⟨_, 2, _, by decide, c_put_ok3 u _ _ _ r1 f i c hf hi60 hfn, fun r v h => ⟨h.1, 2, _, by decide, m_put_ok v 3 (by decide) _ _ _ (r2.keep (ks := [45]) (by rw [h.2]; exact fr.rf.pt (by decide)) (by decide)) f i c hf hi60 hfn, fun r w k => ⟨k.1, by rw [k.2, h.2]; exact hI.put 3 (by decide) i hi60 _⟩⟩⟩
      · exact PRi.fi hI (c_put_f3 u _ _ _ r1 f z c hf hfn) (fun v hf2 => m_put_f v 3 (by decide) _ _ _ (r2.keep hf2 (by decide)) f z c hf hfn)
  · exact PRi.ee hI (c_put_bad u x y z c hg) (fun v hv => m_put_bad v x y z c hg)
theorem pr_get (u : ST) (h : INV u) (x y z : Int32) : PRi me_N_get me_R_get [.int x, .int y, .int z] u := by
  obtain ⟨T, n, b, n', b', G, sh, hI⟩ := h
  by_cases hg : (0 ≤ x ∧ x < nI 4) ∧ (0 ≤ y ∧ y < nI 3)
  · obtain ⟨g1, g2⟩ := hg
    obtain ⟨j, hj, rfl⟩ := inr_f (n := 4) (by decide) g1
    obtain ⟨f, hf, rfl⟩ := inr_f (n := 3) (by decide) g2
    rcases (show j = 0 ∨ j = 1 ∨ j = 2 ∨ j = 3 by omega) with rfl | rfl | rfl | rfl
    · obtain ⟨r1, r2, r3⟩ := hI.2.2.2.2.2.2.2.1 0 (by decide)
      by_cases hfn : fnd (sh 0).1 (sh 0).2.1 (sh 0).2.2 f z = 0
      · obtain ⟨i, hi, rfl⟩ := inr_f (by have := r1.2.2.2.2.2; omega) (fnd_in hfn)
        have hi60 : i < 60 := Nat.lt_of_lt_of_le hi r1.2.2.2.2.2
        exact ⟨_, 2, _, by decide, c_get_ok0 u _ _ _ r1 f i hf hi60 hfn, fun r v h => ⟨h.1, 2, _, by decide, m_get_ok v 0 (by decide) _ _ _ (by rw [h.2]; exact r2) f i hf hi60 hfn, fun r w k => ⟨by rw [k.1, h.2]; exact congrArg (fun z => some (Value.int z)) (r3 i hi60).symm, by rw [k.2, h.2]; exact ⟨_, _, _, _, _, _, _, hI⟩⟩⟩⟩
      · exact PRi.fi hI (c_get_f0 u _ _ _ r1 f z hf hfn) (fun v hf2 => m_get_f v 0 (by decide) _ _ _ (r2.keep hf2 (by decide)) f z hf hfn)
    · obtain ⟨r1, r2, r3⟩ := hI.2.2.2.2.2.2.2.1 1 (by decide)
      by_cases hfn : fnd (sh 1).1 (sh 1).2.1 (sh 1).2.2 f z = 0
      · obtain ⟨i, hi, rfl⟩ := inr_f (by have := r1.2.2.2.2.2; omega) (fnd_in hfn)
        have hi60 : i < 60 := Nat.lt_of_lt_of_le hi r1.2.2.2.2.2
        exact ⟨_, 2, _, by decide, c_get_ok1 u _ _ _ r1 f i hf hi60 hfn, fun r v h => ⟨h.1, 2, _, by decide, m_get_ok v 1 (by decide) _ _ _ (by rw [h.2]; exact r2) f i hf hi60 hfn, fun r w k => ⟨by rw [k.1, h.2]; exact congrArg (fun z => some (Value.int z)) (r3 i hi60).symm, by rw [k.2, h.2]; exact ⟨_, _, _, _, _, _, _, hI⟩⟩⟩⟩
      · exact PRi.fi hI (c_get_f1 u _ _ _ r1 f z hf hfn) (fun v hf2 => m_get_f v 1 (by decide) _ _ _ (r2.keep hf2 (by decide)) f z hf hfn)
    · obtain ⟨r1, r2, r3⟩ := hI.2.2.2.2.2.2.2.1 2 (by decide)
      by_cases hfn : fnd (sh 2).1 (sh 2).2.1 (sh 2).2.2 f z = 0
      · obtain ⟨i, hi, rfl⟩ := inr_f (by have := r1.2.2.2.2.2; omega) (fnd_in hfn)
        have hi60 : i < 60 := Nat.lt_of_lt_of_le hi r1.2.2.2.2.2
        exact ⟨_, 2, _, by decide, c_get_ok2 u _ _ _ r1 f i hf hi60 hfn, fun r v h => ⟨h.1, 2, _, by decide, m_get_ok v 2 (by decide) _ _ _ (by rw [h.2]; exact r2) f i hf hi60 hfn, fun r w k => ⟨by rw [k.1, h.2]; exact congrArg (fun z => some (Value.int z)) (r3 i hi60).symm, by rw [k.2, h.2]; exact ⟨_, _, _, _, _, _, _, hI⟩⟩⟩⟩
      · exact PRi.fi hI (c_get_f2 u _ _ _ r1 f z hf hfn) (fun v hf2 => m_get_f v 2 (by decide) _ _ _ (r2.keep hf2 (by decide)) f z hf hfn)
    · obtain ⟨r1, r2, r3⟩ := hI.2.2.2.2.2.2.2.1 3 (by decide)
      by_cases hfn : fnd (sh 3).1 (sh 3).2.1 (sh 3).2.2 f z = 0
      · obtain ⟨i, hi, rfl⟩ := inr_f (by have := r1.2.2.2.2.2; omega) (fnd_in hfn)
        have hi60 : i < 60 := Nat.lt_of_lt_of_le hi r1.2.2.2.2.2
        exact ⟨_, 2, _, by decide, c_get_ok3 u _ _ _ r1 f i hf hi60 hfn, fun r v h => ⟨h.1, 2, _, by decide, m_get_ok v 3 (by decide) _ _ _ (by rw [h.2]; exact r2) f i hf hi60 hfn, fun r w k => ⟨by rw [k.1, h.2]; exact congrArg (fun z => some (Value.int z)) (r3 i hi60).symm, by rw [k.2, h.2]; exact ⟨_, _, _, _, _, _, _, hI⟩⟩⟩⟩
      · exact PRi.fi hI (c_get_f3 u _ _ _ r1 f z hf hfn) (fun v hf2 => m_get_f v 3 (by decide) _ _ _ (r2.keep hf2 (by decide)) f z hf hfn)
  · exact PRi.ee hI (c_get_bad u x y z hg) (fun v hv => m_get_bad v x y z hg)
theorem has_in {sz : Nat} {a c : Int32} (hs : sz ≤ 60) (h : hasI sz a c) : ∃ i k : Nat, a = nI i ∧ c = nI k ∧ i + k ≤ sz := by
  obtain ⟨h1, h2, h3, h4⟩ := h
  obtain ⟨i, hi, rfl⟩ := nI_of (Int32.not_lt.mpr h1)
  obtain ⟨k, hk, rfl⟩ := nI_of (Int32.not_lt.mpr h2)
  have hk2 := (nI_leI hk (by omega)).mp h3
  rw [pk_sub hk2] at h4
  have := (nI_leI hi (by omega)).mp h4
  exact ⟨i, k, rfl, rfl, by omega⟩
theorem nI_inj31 {a b : Nat} (ha : a < 2 ^ 31) (hb : b < 2 ^ 31) (h : nI a = nI b) : a = b := (nI_inj (by omega) (by omega)).mp h
theorem rwr_fr {u : ST} {k : Nat} {f : Nat → Int32} : fr [k] u (rwr u k f) := fun a ha => if_neg (fun z => ha (by rw [z]; exact List.mem_cons_self))
theorem IV.copy {T : TD} {n : Nat} {b : Nat → Nat} {n' : Nat} {b' : Nat → Nat} {G : SD} {sh : Nat → Nat × Nat × Nat} {u : ST} {v w : ST} (hI : IV T n b n' b' G sh u) (s t : Nat) (hs : s < 4) (ht : t < 4) (a c k : Nat) (ha : a + k ≤ 60) (hc : c + k ≤ 60) (hv : v = rwr u (39 + 2 * t) (va_cpy (u.1 (39 + 2 * s)) (u.1 (39 + 2 * t)) a c k)) (h1 : ∀ j, j < 60 → w.1 81 (60 * t + j) = va_cpy (fun j => v.1 81 (60 * s + j)) (fun j => v.1 81 (60 * t + j)) a c k j) (h2 : ∀ x, ¬ (60 * t ≤ x ∧ x < 60 * t + 60) → w.1 81 x = v.1 81 x) (h3 : fr [81, 82] v w) : INV w := by
  have rs := (hI.2.2.2.2.2.2.2.1 s hs).2.2
  have rt := (hI.2.2.2.2.2.2.2.1 t ht).2.2
  have e81 : v.1 81 = u.1 81 := by rw [hv]; exact if_neg (by omega)
  refine hI.items (v := v) t ht (ks := []) (js := [81, 82]) (fun x hx => by rw [hv]; exact if_neg (fun z => hx (by rw [z]; exact List.mem_cons_self))) (by decide) h3 (by decide) (f48.of h3 (by decide)) (fun j hj => ?_) (fun x hx => by rw [h2 x hx, e81])
  rw [h1 j hj, e81]
  have e39 : v.1 (39 + 2 * t) = va_cpy (u.1 (39 + 2 * s)) (u.1 (39 + 2 * t)) a c k := by rw [hv]; exact if_pos rfl
  rw [e39]
  unfold va_cpy
  by_cases e : c ≤ j ∧ j < c + k
  · rw [if_pos e, if_pos e]
    exact rs _ (by omega)
  · rw [if_neg e, if_neg e]
    exact rt j hj
theorem pr_copy (u : ST) (h : INV u) (x xa y xb xc : Int32) : PRi me_N_copy me_R_copy [.int x, .int xa, .int y, .int xb, .int xc] u := by
  obtain ⟨T, n, b, n', b', G, sh, hI⟩ := h
  by_cases hg : (0 ≤ x ∧ x < nI 4) ∧ (0 ≤ y ∧ y < nI 4)
  · obtain ⟨g1, g2⟩ := hg
    obtain ⟨j, hj, rfl⟩ := inr_f (n := 4) (by decide) g1
    obtain ⟨l, hl, rfl⟩ := inr_f (n := 4) (by decide) g2
    rcases (show j = 0 ∨ j = 1 ∨ j = 2 ∨ j = 3 by omega) with rfl | rfl | rfl | rfl
    · all_goals rcases (show l = 0 ∨ l = 1 ∨ l = 2 ∨ l = 3 by omega) with rfl | rfl | rfl | rfl
      · obtain ⟨r1, r2, r3⟩ := hI.2.2.2.2.2.2.2.1 0 (by decide)
        obtain ⟨p1, p2, p3⟩ := hI.2.2.2.2.2.2.2.1 0 (by decide)
        by_cases hnl : (sh 0).1 = 0 ∧ (sh 0).1 = 0
        · obtain ⟨z1, z2⟩ := hnl
          by_cases hst : (sh 0).2.1 = (sh 0).2.1
          · by_cases hix : hasI (sh 0).2.2 xa xc ∧ hasI (sh 0).2.2 xb xc
            · obtain ⟨i, k, e1, e2, hik⟩ := has_in r1.2.2.2.2.2 hix.1
              obtain ⟨i2, k2, e3, e4, hik2⟩ := has_in p1.2.2.2.2.2 hix.2
              have r6 := r1.2.2.2.2.2
              have p6 := p1.2.2.2.2.2
              have ek : k2 = k := nI_inj31 (by omega) (by omega) (e4.symm.trans e2)
              subst e1 e2 e3 ek
              clear e4
              refine ⟨_, 2, _, by decide, c_copy_ok00 u _ _ _ r1 i i2 k2 z1 z2 hik hik2, fun r v h => ⟨h.1, 2, _, by decide, m_copy_ok v 0 (by decide) _ _ _ (r2.keep (ks := [39]) (by rw [h.2]; exact rwr_fr) (by decide)) 0 (by decide) _ _ _ (p2.keep (ks := [39]) (by rw [h.2]; exact rwr_fr) (by decide)) i i2 k2 z1 z2 hst hik hik2, fun r w k => ⟨k.1, ?_⟩⟩⟩
              exact hI.copy 0 0 (by decide) (by decide) i i2 k2 (by omega) (by omega) h.2 k.2.1 k.2.2.1 k.2.2.2.1
            · exact PRi.fi hI (c_copy_index00 u _ _ _ r1 xa xb xc z1 z2 hix) (fun v hf => m_copy_index v 0 (by decide) _ _ _ (r2.keep hf (by decide)) 0 (by decide) _ _ _ (p2.keep hf (by decide)) xa xb xc z1 z2 hst hix)
          · exact absurd rfl hst
        · exact PRi.fi hI (c_copy_null00 u _ _ _ r1 xa xb xc hnl) (fun v hf => m_copy_null v 0 (by decide) _ _ _ (r2.keep hf (by decide)) 0 (by decide) _ _ _ (p2.keep hf (by decide)) xa xb xc hnl)
      · obtain ⟨r1, r2, r3⟩ := hI.2.2.2.2.2.2.2.1 0 (by decide)
        obtain ⟨p1, p2, p3⟩ := hI.2.2.2.2.2.2.2.1 1 (by decide)
        by_cases hnl : (sh 0).1 = 0 ∧ (sh 1).1 = 0
        · obtain ⟨z1, z2⟩ := hnl
          by_cases hst : (sh 0).2.1 = (sh 1).2.1
          · by_cases hix : hasI (sh 0).2.2 xa xc ∧ hasI (sh 1).2.2 xb xc
            · obtain ⟨i, k, e1, e2, hik⟩ := has_in r1.2.2.2.2.2 hix.1
              obtain ⟨i2, k2, e3, e4, hik2⟩ := has_in p1.2.2.2.2.2 hix.2
              have r6 := r1.2.2.2.2.2
              have p6 := p1.2.2.2.2.2
              have ek : k2 = k := nI_inj31 (by omega) (by omega) (e4.symm.trans e2)
              subst e1 e2 e3 ek
              clear e4
              refine ⟨_, 2, _, by decide, c_copy_ok01 u _ _ _ r1 _ _ _ p1 i i2 k2 z1 z2 hst hik hik2, fun r v h => ⟨h.1, 2, _, by decide, m_copy_ok v 0 (by decide) _ _ _ (r2.keep (ks := [41]) (by rw [h.2]; exact rwr_fr) (by decide)) 1 (by decide) _ _ _ (p2.keep (ks := [41]) (by rw [h.2]; exact rwr_fr) (by decide)) i i2 k2 z1 z2 hst hik hik2, fun r w k => ⟨k.1, ?_⟩⟩⟩
              exact hI.copy 0 1 (by decide) (by decide) i i2 k2 (by omega) (by omega) h.2 k.2.1 k.2.2.1 k.2.2.2.1
            · exact PRi.fi hI (c_copy_index01 u _ _ _ r1 _ _ _ p1 xa xb xc z1 z2 hst hix) (fun v hf => m_copy_index v 0 (by decide) _ _ _ (r2.keep hf (by decide)) 1 (by decide) _ _ _ (p2.keep hf (by decide)) xa xb xc z1 z2 hst hix)
          · exact PRi.fi hI (c_copy_store01 u _ _ _ r1 _ _ _ p1 xa xb xc z1 z2 hst) (fun v hf => m_copy_store v 0 (by decide) _ _ _ (r2.keep hf (by decide)) 1 (by decide) _ _ _ (p2.keep hf (by decide)) xa xb xc z1 z2 hst)
        · exact PRi.fi hI (c_copy_null01 u _ _ _ r1 _ _ _ p1 xa xb xc hnl) (fun v hf => m_copy_null v 0 (by decide) _ _ _ (r2.keep hf (by decide)) 1 (by decide) _ _ _ (p2.keep hf (by decide)) xa xb xc hnl)
      · obtain ⟨r1, r2, r3⟩ := hI.2.2.2.2.2.2.2.1 0 (by decide)
        obtain ⟨p1, p2, p3⟩ := hI.2.2.2.2.2.2.2.1 2 (by decide)
        by_cases hnl : (sh 0).1 = 0 ∧ (sh 2).1 = 0
        · obtain ⟨z1, z2⟩ := hnl
          by_cases hst : (sh 0).2.1 = (sh 2).2.1
          · by_cases hix : hasI (sh 0).2.2 xa xc ∧ hasI (sh 2).2.2 xb xc
            · obtain ⟨i, k, e1, e2, hik⟩ := has_in r1.2.2.2.2.2 hix.1
              obtain ⟨i2, k2, e3, e4, hik2⟩ := has_in p1.2.2.2.2.2 hix.2
              have r6 := r1.2.2.2.2.2
              have p6 := p1.2.2.2.2.2
              have ek : k2 = k := nI_inj31 (by omega) (by omega) (e4.symm.trans e2)
              subst e1 e2 e3 ek
              clear e4
              refine ⟨_, 2, _, by decide, c_copy_ok02 u _ _ _ r1 _ _ _ p1 i i2 k2 z1 z2 hst hik hik2, fun r v h => ⟨h.1, 2, _, by decide, m_copy_ok v 0 (by decide) _ _ _ (r2.keep (ks := [43]) (by rw [h.2]; exact rwr_fr) (by decide)) 2 (by decide) _ _ _ (p2.keep (ks := [43]) (by rw [h.2]; exact rwr_fr) (by decide)) i i2 k2 z1 z2 hst hik hik2, fun r w k => ⟨k.1, ?_⟩⟩⟩
              exact hI.copy 0 2 (by decide) (by decide) i i2 k2 (by omega) (by omega) h.2 k.2.1 k.2.2.1 k.2.2.2.1
            · exact PRi.fi hI (c_copy_index02 u _ _ _ r1 _ _ _ p1 xa xb xc z1 z2 hst hix) (fun v hf => m_copy_index v 0 (by decide) _ _ _ (r2.keep hf (by decide)) 2 (by decide) _ _ _ (p2.keep hf (by decide)) xa xb xc z1 z2 hst hix)
          · exact PRi.fi hI (c_copy_store02 u _ _ _ r1 _ _ _ p1 xa xb xc z1 z2 hst) (fun v hf => m_copy_store v 0 (by decide) _ _ _ (r2.keep hf (by decide)) 2 (by decide) _ _ _ (p2.keep hf (by decide)) xa xb xc z1 z2 hst)
        · exact PRi.fi hI (c_copy_null02 u _ _ _ r1 _ _ _ p1 xa xb xc hnl) (fun v hf => m_copy_null v 0 (by decide) _ _ _ (r2.keep hf (by decide)) 2 (by decide) _ _ _ (p2.keep hf (by decide)) xa xb xc hnl)
      · obtain ⟨r1, r2, r3⟩ := hI.2.2.2.2.2.2.2.1 0 (by decide)
        obtain ⟨p1, p2, p3⟩ := hI.2.2.2.2.2.2.2.1 3 (by decide)
        by_cases hnl : (sh 0).1 = 0 ∧ (sh 3).1 = 0
        · obtain ⟨z1, z2⟩ := hnl
          by_cases hst : (sh 0).2.1 = (sh 3).2.1
          · by_cases hix : hasI (sh 0).2.2 xa xc ∧ hasI (sh 3).2.2 xb xc
            · obtain ⟨i, k, e1, e2, hik⟩ := has_in r1.2.2.2.2.2 hix.1
              obtain ⟨i2, k2, e3, e4, hik2⟩ := has_in p1.2.2.2.2.2 hix.2
              have r6 := r1.2.2.2.2.2
              have p6 := p1.2.2.2.2.2
              have ek : k2 = k := nI_inj31 (by omega) (by omega) (e4.symm.trans e2)
              subst e1 e2 e3 ek
              clear e4
              refine ⟨_, 2, _, by decide, c_copy_ok03 u _ _ _ r1 _ _ _ p1 i i2 k2 z1 z2 hst hik hik2, fun r v h => ⟨h.1, 2, _, by decide, m_copy_ok v 0 (by decide) _ _ _ (r2.keep (ks := [45]) (by rw [h.2]; exact rwr_fr) (by decide)) 3 (by decide) _ _ _ (p2.keep (ks := [45]) (by rw [h.2]; exact rwr_fr) (by decide)) i i2 k2 z1 z2 hst hik hik2, fun r w k => ⟨k.1, ?_⟩⟩⟩
              exact hI.copy 0 3 (by decide) (by decide) i i2 k2 (by omega) (by omega) h.2 k.2.1 k.2.2.1 k.2.2.2.1
            · exact PRi.fi hI (c_copy_index03 u _ _ _ r1 _ _ _ p1 xa xb xc z1 z2 hst hix) (fun v hf => m_copy_index v 0 (by decide) _ _ _ (r2.keep hf (by decide)) 3 (by decide) _ _ _ (p2.keep hf (by decide)) xa xb xc z1 z2 hst hix)
          · exact PRi.fi hI (c_copy_store03 u _ _ _ r1 _ _ _ p1 xa xb xc z1 z2 hst) (fun v hf => m_copy_store v 0 (by decide) _ _ _ (r2.keep hf (by decide)) 3 (by decide) _ _ _ (p2.keep hf (by decide)) xa xb xc z1 z2 hst)
        · exact PRi.fi hI (c_copy_null03 u _ _ _ r1 _ _ _ p1 xa xb xc hnl) (fun v hf => m_copy_null v 0 (by decide) _ _ _ (r2.keep hf (by decide)) 3 (by decide) _ _ _ (p2.keep hf (by decide)) xa xb xc hnl)
    · all_goals rcases (show l = 0 ∨ l = 1 ∨ l = 2 ∨ l = 3 by omega) with rfl | rfl | rfl | rfl
      · obtain ⟨r1, r2, r3⟩ := hI.2.2.2.2.2.2.2.1 1 (by decide)
        obtain ⟨p1, p2, p3⟩ := hI.2.2.2.2.2.2.2.1 0 (by decide)
        by_cases hnl : (sh 1).1 = 0 ∧ (sh 0).1 = 0
        · obtain ⟨z1, z2⟩ := hnl
          by_cases hst : (sh 1).2.1 = (sh 0).2.1
          · by_cases hix : hasI (sh 1).2.2 xa xc ∧ hasI (sh 0).2.2 xb xc
            · obtain ⟨i, k, e1, e2, hik⟩ := has_in r1.2.2.2.2.2 hix.1
              obtain ⟨i2, k2, e3, e4, hik2⟩ := has_in p1.2.2.2.2.2 hix.2
              have r6 := r1.2.2.2.2.2
              have p6 := p1.2.2.2.2.2
              have ek : k2 = k := nI_inj31 (by omega) (by omega) (e4.symm.trans e2)
              subst e1 e2 e3 ek
              clear e4
              refine ⟨_, 2, _, by decide, c_copy_ok10 u _ _ _ r1 _ _ _ p1 i i2 k2 z1 z2 hst hik hik2, fun r v h => ⟨h.1, 2, _, by decide, m_copy_ok v 1 (by decide) _ _ _ (r2.keep (ks := [39]) (by rw [h.2]; exact rwr_fr) (by decide)) 0 (by decide) _ _ _ (p2.keep (ks := [39]) (by rw [h.2]; exact rwr_fr) (by decide)) i i2 k2 z1 z2 hst hik hik2, fun r w k => ⟨k.1, ?_⟩⟩⟩
              exact hI.copy 1 0 (by decide) (by decide) i i2 k2 (by omega) (by omega) h.2 k.2.1 k.2.2.1 k.2.2.2.1
            · exact PRi.fi hI (c_copy_index10 u _ _ _ r1 _ _ _ p1 xa xb xc z1 z2 hst hix) (fun v hf => m_copy_index v 1 (by decide) _ _ _ (r2.keep hf (by decide)) 0 (by decide) _ _ _ (p2.keep hf (by decide)) xa xb xc z1 z2 hst hix)
          · exact PRi.fi hI (c_copy_store10 u _ _ _ r1 _ _ _ p1 xa xb xc z1 z2 hst) (fun v hf => m_copy_store v 1 (by decide) _ _ _ (r2.keep hf (by decide)) 0 (by decide) _ _ _ (p2.keep hf (by decide)) xa xb xc z1 z2 hst)
        · exact PRi.fi hI (c_copy_null10 u _ _ _ r1 _ _ _ p1 xa xb xc hnl) (fun v hf => m_copy_null v 1 (by decide) _ _ _ (r2.keep hf (by decide)) 0 (by decide) _ _ _ (p2.keep hf (by decide)) xa xb xc hnl)
      · obtain ⟨r1, r2, r3⟩ := hI.2.2.2.2.2.2.2.1 1 (by decide)
        obtain ⟨p1, p2, p3⟩ := hI.2.2.2.2.2.2.2.1 1 (by decide)
        by_cases hnl : (sh 1).1 = 0 ∧ (sh 1).1 = 0
        · obtain ⟨z1, z2⟩ := hnl
          by_cases hst : (sh 1).2.1 = (sh 1).2.1
          · by_cases hix : hasI (sh 1).2.2 xa xc ∧ hasI (sh 1).2.2 xb xc
            · obtain ⟨i, k, e1, e2, hik⟩ := has_in r1.2.2.2.2.2 hix.1
              obtain ⟨i2, k2, e3, e4, hik2⟩ := has_in p1.2.2.2.2.2 hix.2
              have r6 := r1.2.2.2.2.2
              have p6 := p1.2.2.2.2.2
              have ek : k2 = k := nI_inj31 (by omega) (by omega) (e4.symm.trans e2)
              subst e1 e2 e3 ek
              clear e4
              refine ⟨_, 2, _, by decide, c_copy_ok11 u _ _ _ r1 i i2 k2 z1 z2 hik hik2, fun r v h => ⟨h.1, 2, _, by decide, m_copy_ok v 1 (by decide) _ _ _ (r2.keep (ks := [41]) (by rw [h.2]; exact rwr_fr) (by decide)) 1 (by decide) _ _ _ (p2.keep (ks := [41]) (by rw [h.2]; exact rwr_fr) (by decide)) i i2 k2 z1 z2 hst hik hik2, fun r w k => ⟨k.1, ?_⟩⟩⟩
              exact hI.copy 1 1 (by decide) (by decide) i i2 k2 (by omega) (by omega) h.2 k.2.1 k.2.2.1 k.2.2.2.1
            · exact PRi.fi hI (c_copy_index11 u _ _ _ r1 xa xb xc z1 z2 hix) (fun v hf => m_copy_index v 1 (by decide) _ _ _ (r2.keep hf (by decide)) 1 (by decide) _ _ _ (p2.keep hf (by decide)) xa xb xc z1 z2 hst hix)
          · exact absurd rfl hst
        · exact PRi.fi hI (c_copy_null11 u _ _ _ r1 xa xb xc hnl) (fun v hf => m_copy_null v 1 (by decide) _ _ _ (r2.keep hf (by decide)) 1 (by decide) _ _ _ (p2.keep hf (by decide)) xa xb xc hnl)
      · obtain ⟨r1, r2, r3⟩ := hI.2.2.2.2.2.2.2.1 1 (by decide)
        obtain ⟨p1, p2, p3⟩ := hI.2.2.2.2.2.2.2.1 2 (by decide)
        by_cases hnl : (sh 1).1 = 0 ∧ (sh 2).1 = 0
        · obtain ⟨z1, z2⟩ := hnl
          by_cases hst : (sh 1).2.1 = (sh 2).2.1
          · by_cases hix : hasI (sh 1).2.2 xa xc ∧ hasI (sh 2).2.2 xb xc
            · obtain ⟨i, k, e1, e2, hik⟩ := has_in r1.2.2.2.2.2 hix.1
              obtain ⟨i2, k2, e3, e4, hik2⟩ := has_in p1.2.2.2.2.2 hix.2
              have r6 := r1.2.2.2.2.2
              have p6 := p1.2.2.2.2.2
              have ek : k2 = k := nI_inj31 (by omega) (by omega) (e4.symm.trans e2)
              subst e1 e2 e3 ek
              clear e4
              refine ⟨_, 2, _, by decide, c_copy_ok12 u _ _ _ r1 _ _ _ p1 i i2 k2 z1 z2 hst hik hik2, fun r v h => ⟨h.1, 2, _, by decide, m_copy_ok v 1 (by decide) _ _ _ (r2.keep (ks := [43]) (by rw [h.2]; exact rwr_fr) (by decide)) 2 (by decide) _ _ _ (p2.keep (ks := [43]) (by rw [h.2]; exact rwr_fr) (by decide)) i i2 k2 z1 z2 hst hik hik2, fun r w k => ⟨k.1, ?_⟩⟩⟩
              exact hI.copy 1 2 (by decide) (by decide) i i2 k2 (by omega) (by omega) h.2 k.2.1 k.2.2.1 k.2.2.2.1
            · exact PRi.fi hI (c_copy_index12 u _ _ _ r1 _ _ _ p1 xa xb xc z1 z2 hst hix) (fun v hf => m_copy_index v 1 (by decide) _ _ _ (r2.keep hf (by decide)) 2 (by decide) _ _ _ (p2.keep hf (by decide)) xa xb xc z1 z2 hst hix)
          · exact PRi.fi hI (c_copy_store12 u _ _ _ r1 _ _ _ p1 xa xb xc z1 z2 hst) (fun v hf => m_copy_store v 1 (by decide) _ _ _ (r2.keep hf (by decide)) 2 (by decide) _ _ _ (p2.keep hf (by decide)) xa xb xc z1 z2 hst)
        · exact PRi.fi hI (c_copy_null12 u _ _ _ r1 _ _ _ p1 xa xb xc hnl) (fun v hf => m_copy_null v 1 (by decide) _ _ _ (r2.keep hf (by decide)) 2 (by decide) _ _ _ (p2.keep hf (by decide)) xa xb xc hnl)
      · obtain ⟨r1, r2, r3⟩ := hI.2.2.2.2.2.2.2.1 1 (by decide)
        obtain ⟨p1, p2, p3⟩ := hI.2.2.2.2.2.2.2.1 3 (by decide)
        by_cases hnl : (sh 1).1 = 0 ∧ (sh 3).1 = 0
        · obtain ⟨z1, z2⟩ := hnl
          by_cases hst : (sh 1).2.1 = (sh 3).2.1
          · by_cases hix : hasI (sh 1).2.2 xa xc ∧ hasI (sh 3).2.2 xb xc
            · obtain ⟨i, k, e1, e2, hik⟩ := has_in r1.2.2.2.2.2 hix.1
              obtain ⟨i2, k2, e3, e4, hik2⟩ := has_in p1.2.2.2.2.2 hix.2
              have r6 := r1.2.2.2.2.2
              have p6 := p1.2.2.2.2.2
              have ek : k2 = k := nI_inj31 (by omega) (by omega) (e4.symm.trans e2)
              subst e1 e2 e3 ek
              clear e4
              refine ⟨_, 2, _, by decide, c_copy_ok13 u _ _ _ r1 _ _ _ p1 i i2 k2 z1 z2 hst hik hik2, fun r v h => ⟨h.1, 2, _, by decide, m_copy_ok v 1 (by decide) _ _ _ (r2.keep (ks := [45]) (by rw [h.2]; exact rwr_fr) (by decide)) 3 (by decide) _ _ _ (p2.keep (ks := [45]) (by rw [h.2]; exact rwr_fr) (by decide)) i i2 k2 z1 z2 hst hik hik2, fun r w k => ⟨k.1, ?_⟩⟩⟩
              exact hI.copy 1 3 (by decide) (by decide) i i2 k2 (by omega) (by omega) h.2 k.2.1 k.2.2.1 k.2.2.2.1
            · exact PRi.fi hI (c_copy_index13 u _ _ _ r1 _ _ _ p1 xa xb xc z1 z2 hst hix) (fun v hf => m_copy_index v 1 (by decide) _ _ _ (r2.keep hf (by decide)) 3 (by decide) _ _ _ (p2.keep hf (by decide)) xa xb xc z1 z2 hst hix)
          · exact PRi.fi hI (c_copy_store13 u _ _ _ r1 _ _ _ p1 xa xb xc z1 z2 hst) (fun v hf => m_copy_store v 1 (by decide) _ _ _ (r2.keep hf (by decide)) 3 (by decide) _ _ _ (p2.keep hf (by decide)) xa xb xc z1 z2 hst)
        · exact PRi.fi hI (c_copy_null13 u _ _ _ r1 _ _ _ p1 xa xb xc hnl) (fun v hf => m_copy_null v 1 (by decide) _ _ _ (r2.keep hf (by decide)) 3 (by decide) _ _ _ (p2.keep hf (by decide)) xa xb xc hnl)
    · all_goals rcases (show l = 0 ∨ l = 1 ∨ l = 2 ∨ l = 3 by omega) with rfl | rfl | rfl | rfl
      · obtain ⟨r1, r2, r3⟩ := hI.2.2.2.2.2.2.2.1 2 (by decide)
        obtain ⟨p1, p2, p3⟩ := hI.2.2.2.2.2.2.2.1 0 (by decide)
        by_cases hnl : (sh 2).1 = 0 ∧ (sh 0).1 = 0
        · obtain ⟨z1, z2⟩ := hnl
          by_cases hst : (sh 2).2.1 = (sh 0).2.1
          · by_cases hix : hasI (sh 2).2.2 xa xc ∧ hasI (sh 0).2.2 xb xc
            · obtain ⟨i, k, e1, e2, hik⟩ := has_in r1.2.2.2.2.2 hix.1
              obtain ⟨i2, k2, e3, e4, hik2⟩ := has_in p1.2.2.2.2.2 hix.2
              have r6 := r1.2.2.2.2.2
              have p6 := p1.2.2.2.2.2
              have ek : k2 = k := nI_inj31 (by omega) (by omega) (e4.symm.trans e2)
              subst e1 e2 e3 ek
              clear e4
              refine ⟨_, 2, _, by decide, c_copy_ok20 u _ _ _ r1 _ _ _ p1 i i2 k2 z1 z2 hst hik hik2, fun r v h => ⟨h.1, 2, _, by decide, m_copy_ok v 2 (by decide) _ _ _ (r2.keep (ks := [39]) (by rw [h.2]; exact rwr_fr) (by decide)) 0 (by decide) _ _ _ (p2.keep (ks := [39]) (by rw [h.2]; exact rwr_fr) (by decide)) i i2 k2 z1 z2 hst hik hik2, fun r w k => ⟨k.1, ?_⟩⟩⟩
              exact hI.copy 2 0 (by decide) (by decide) i i2 k2 (by omega) (by omega) h.2 k.2.1 k.2.2.1 k.2.2.2.1
            · exact PRi.fi hI (c_copy_index20 u _ _ _ r1 _ _ _ p1 xa xb xc z1 z2 hst hix) (fun v hf => m_copy_index v 2 (by decide) _ _ _ (r2.keep hf (by decide)) 0 (by decide) _ _ _ (p2.keep hf (by decide)) xa xb xc z1 z2 hst hix)
          · exact PRi.fi hI (c_copy_store20 u _ _ _ r1 _ _ _ p1 xa xb xc z1 z2 hst) (fun v hf => m_copy_store v 2 (by decide) _ _ _ (r2.keep hf (by decide)) 0 (by decide) _ _ _ (p2.keep hf (by decide)) xa xb xc z1 z2 hst)
        · exact PRi.fi hI (c_copy_null20 u _ _ _ r1 _ _ _ p1 xa xb xc hnl) (fun v hf => m_copy_null v 2 (by decide) _ _ _ (r2.keep hf (by decide)) 0 (by decide) _ _ _ (p2.keep hf (by decide)) xa xb xc hnl)
      · obtain ⟨r1, r2, r3⟩ := hI.2.2.2.2.2.2.2.1 2 (by decide)
        obtain ⟨p1, p2, p3⟩ := hI.2.2.2.2.2.2.2.1 1 (by decide)
        by_cases hnl : (sh 2).1 = 0 ∧ (sh 1).1 = 0
        · obtain ⟨z1, z2⟩ := hnl
          by_cases hst : (sh 2).2.1 = (sh 1).2.1
          · by_cases hix : hasI (sh 2).2.2 xa xc ∧ hasI (sh 1).2.2 xb xc
            · obtain ⟨i, k, e1, e2, hik⟩ := has_in r1.2.2.2.2.2 hix.1
              obtain ⟨i2, k2, e3, e4, hik2⟩ := has_in p1.2.2.2.2.2 hix.2
              have r6 := r1.2.2.2.2.2
              have p6 := p1.2.2.2.2.2
              have ek : k2 = k := nI_inj31 (by omega) (by omega) (e4.symm.trans e2)
              subst e1 e2 e3 ek
              clear e4
              refine ⟨_, 2, _, by decide, c_copy_ok21 u _ _ _ r1 _ _ _ p1 i i2 k2 z1 z2 hst hik hik2, fun r v h => ⟨h.1, 2, _, by decide, m_copy_ok v 2 (by decide) _ _ _ (r2.keep (ks := [41]) (by rw [h.2]; exact rwr_fr) (by decide)) 1 (by decide) _ _ _ (p2.keep (ks := [41]) (by rw [h.2]; exact rwr_fr) (by decide)) i i2 k2 z1 z2 hst hik hik2, fun r w k => ⟨k.1, ?_⟩⟩⟩
              exact hI.copy 2 1 (by decide) (by decide) i i2 k2 (by omega) (by omega) h.2 k.2.1 k.2.2.1 k.2.2.2.1
            · exact PRi.fi hI (c_copy_index21 u _ _ _ r1 _ _ _ p1 xa xb xc z1 z2 hst hix) (fun v hf => m_copy_index v 2 (by decide) _ _ _ (r2.keep hf (by decide)) 1 (by decide) _ _ _ (p2.keep hf (by decide)) xa xb xc z1 z2 hst hix)
          · exact PRi.fi hI (c_copy_store21 u _ _ _ r1 _ _ _ p1 xa xb xc z1 z2 hst) (fun v hf => m_copy_store v 2 (by decide) _ _ _ (r2.keep hf (by decide)) 1 (by decide) _ _ _ (p2.keep hf (by decide)) xa xb xc z1 z2 hst)
        · exact PRi.fi hI (c_copy_null21 u _ _ _ r1 _ _ _ p1 xa xb xc hnl) (fun v hf => m_copy_null v 2 (by decide) _ _ _ (r2.keep hf (by decide)) 1 (by decide) _ _ _ (p2.keep hf (by decide)) xa xb xc hnl)
      · obtain ⟨r1, r2, r3⟩ := hI.2.2.2.2.2.2.2.1 2 (by decide)
        obtain ⟨p1, p2, p3⟩ := hI.2.2.2.2.2.2.2.1 2 (by decide)
        by_cases hnl : (sh 2).1 = 0 ∧ (sh 2).1 = 0
        · obtain ⟨z1, z2⟩ := hnl
          by_cases hst : (sh 2).2.1 = (sh 2).2.1
          · by_cases hix : hasI (sh 2).2.2 xa xc ∧ hasI (sh 2).2.2 xb xc
            · obtain ⟨i, k, e1, e2, hik⟩ := has_in r1.2.2.2.2.2 hix.1
              obtain ⟨i2, k2, e3, e4, hik2⟩ := has_in p1.2.2.2.2.2 hix.2
              have r6 := r1.2.2.2.2.2
              have p6 := p1.2.2.2.2.2
              have ek : k2 = k := nI_inj31 (by omega) (by omega) (e4.symm.trans e2)
              subst e1 e2 e3 ek
              clear e4
              refine ⟨_, 2, _, by decide, c_copy_ok22 u _ _ _ r1 i i2 k2 z1 z2 hik hik2, fun r v h => ⟨h.1, 2, _, by decide, m_copy_ok v 2 (by decide) _ _ _ (r2.keep (ks := [43]) (by rw [h.2]; exact rwr_fr) (by decide)) 2 (by decide) _ _ _ (p2.keep (ks := [43]) (by rw [h.2]; exact rwr_fr) (by decide)) i i2 k2 z1 z2 hst hik hik2, fun r w k => ⟨k.1, ?_⟩⟩⟩
              exact hI.copy 2 2 (by decide) (by decide) i i2 k2 (by omega) (by omega) h.2 k.2.1 k.2.2.1 k.2.2.2.1
            · exact PRi.fi hI (c_copy_index22 u _ _ _ r1 xa xb xc z1 z2 hix) (fun v hf => m_copy_index v 2 (by decide) _ _ _ (r2.keep hf (by decide)) 2 (by decide) _ _ _ (p2.keep hf (by decide)) xa xb xc z1 z2 hst hix)
          · exact absurd rfl hst
        · exact PRi.fi hI (c_copy_null22 u _ _ _ r1 xa xb xc hnl) (fun v hf => m_copy_null v 2 (by decide) _ _ _ (r2.keep hf (by decide)) 2 (by decide) _ _ _ (p2.keep hf (by decide)) xa xb xc hnl)
      · obtain ⟨r1, r2, r3⟩ := hI.2.2.2.2.2.2.2.1 2 (by decide)
        obtain ⟨p1, p2, p3⟩ := hI.2.2.2.2.2.2.2.1 3 (by decide)
        by_cases hnl : (sh 2).1 = 0 ∧ (sh 3).1 = 0
        · obtain ⟨z1, z2⟩ := hnl
          by_cases hst : (sh 2).2.1 = (sh 3).2.1
          · by_cases hix : hasI (sh 2).2.2 xa xc ∧ hasI (sh 3).2.2 xb xc
            · obtain ⟨i, k, e1, e2, hik⟩ := has_in r1.2.2.2.2.2 hix.1
              obtain ⟨i2, k2, e3, e4, hik2⟩ := has_in p1.2.2.2.2.2 hix.2
              have r6 := r1.2.2.2.2.2
              have p6 := p1.2.2.2.2.2
              have ek : k2 = k := nI_inj31 (by omega) (by omega) (e4.symm.trans e2)
              subst e1 e2 e3 ek
              clear e4
              refine ⟨_, 2, _, by decide, c_copy_ok23 u _ _ _ r1 _ _ _ p1 i i2 k2 z1 z2 hst hik hik2, fun r v h => ⟨h.1, 2, _, by decide, m_copy_ok v 2 (by decide) _ _ _ (r2.keep (ks := [45]) (by rw [h.2]; exact rwr_fr) (by decide)) 3 (by decide) _ _ _ (p2.keep (ks := [45]) (by rw [h.2]; exact rwr_fr) (by decide)) i i2 k2 z1 z2 hst hik hik2, fun r w k => ⟨k.1, ?_⟩⟩⟩
              exact hI.copy 2 3 (by decide) (by decide) i i2 k2 (by omega) (by omega) h.2 k.2.1 k.2.2.1 k.2.2.2.1
            · exact PRi.fi hI (c_copy_index23 u _ _ _ r1 _ _ _ p1 xa xb xc z1 z2 hst hix) (fun v hf => m_copy_index v 2 (by decide) _ _ _ (r2.keep hf (by decide)) 3 (by decide) _ _ _ (p2.keep hf (by decide)) xa xb xc z1 z2 hst hix)
          · exact PRi.fi hI (c_copy_store23 u _ _ _ r1 _ _ _ p1 xa xb xc z1 z2 hst) (fun v hf => m_copy_store v 2 (by decide) _ _ _ (r2.keep hf (by decide)) 3 (by decide) _ _ _ (p2.keep hf (by decide)) xa xb xc z1 z2 hst)
        · exact PRi.fi hI (c_copy_null23 u _ _ _ r1 _ _ _ p1 xa xb xc hnl) (fun v hf => m_copy_null v 2 (by decide) _ _ _ (r2.keep hf (by decide)) 3 (by decide) _ _ _ (p2.keep hf (by decide)) xa xb xc hnl)
    · all_goals rcases (show l = 0 ∨ l = 1 ∨ l = 2 ∨ l = 3 by omega) with rfl | rfl | rfl | rfl
      · obtain ⟨r1, r2, r3⟩ := hI.2.2.2.2.2.2.2.1 3 (by decide)
        obtain ⟨p1, p2, p3⟩ := hI.2.2.2.2.2.2.2.1 0 (by decide)
        by_cases hnl : (sh 3).1 = 0 ∧ (sh 0).1 = 0
        · obtain ⟨z1, z2⟩ := hnl
          by_cases hst : (sh 3).2.1 = (sh 0).2.1
          · by_cases hix : hasI (sh 3).2.2 xa xc ∧ hasI (sh 0).2.2 xb xc
            · obtain ⟨i, k, e1, e2, hik⟩ := has_in r1.2.2.2.2.2 hix.1
              obtain ⟨i2, k2, e3, e4, hik2⟩ := has_in p1.2.2.2.2.2 hix.2
              have r6 := r1.2.2.2.2.2
              have p6 := p1.2.2.2.2.2
              have ek : k2 = k := nI_inj31 (by omega) (by omega) (e4.symm.trans e2)
              subst e1 e2 e3 ek
              clear e4
              refine ⟨_, 2, _, by decide, c_copy_ok30 u _ _ _ r1 _ _ _ p1 i i2 k2 z1 z2 hst hik hik2, fun r v h => ⟨h.1, 2, _, by decide, m_copy_ok v 3 (by decide) _ _ _ (r2.keep (ks := [39]) (by rw [h.2]; exact rwr_fr) (by decide)) 0 (by decide) _ _ _ (p2.keep (ks := [39]) (by rw [h.2]; exact rwr_fr) (by decide)) i i2 k2 z1 z2 hst hik hik2, fun r w k => ⟨k.1, ?_⟩⟩⟩
              exact hI.copy 3 0 (by decide) (by decide) i i2 k2 (by omega) (by omega) h.2 k.2.1 k.2.2.1 k.2.2.2.1
            · exact PRi.fi hI (c_copy_index30 u _ _ _ r1 _ _ _ p1 xa xb xc z1 z2 hst hix) (fun v hf => m_copy_index v 3 (by decide) _ _ _ (r2.keep hf (by decide)) 0 (by decide) _ _ _ (p2.keep hf (by decide)) xa xb xc z1 z2 hst hix)
          · exact PRi.fi hI (c_copy_store30 u _ _ _ r1 _ _ _ p1 xa xb xc z1 z2 hst) (fun v hf => m_copy_store v 3 (by decide) _ _ _ (r2.keep hf (by decide)) 0 (by decide) _ _ _ (p2.keep hf (by decide)) xa xb xc z1 z2 hst)
        · exact PRi.fi hI (c_copy_null30 u _ _ _ r1 _ _ _ p1 xa xb xc hnl) (fun v hf => m_copy_null v 3 (by decide) _ _ _ (r2.keep hf (by decide)) 0 (by decide) _ _ _ (p2.keep hf (by decide)) xa xb xc hnl)
      · obtain ⟨r1, r2, r3⟩ := hI.2.2.2.2.2.2.2.1 3 (by decide)
        obtain ⟨p1, p2, p3⟩ := hI.2.2.2.2.2.2.2.1 1 (by decide)
        by_cases hnl : (sh 3).1 = 0 ∧ (sh 1).1 = 0
        · obtain ⟨z1, z2⟩ := hnl
          by_cases hst : (sh 3).2.1 = (sh 1).2.1
          · by_cases hix : hasI (sh 3).2.2 xa xc ∧ hasI (sh 1).2.2 xb xc
            · obtain ⟨i, k, e1, e2, hik⟩ := has_in r1.2.2.2.2.2 hix.1
              obtain ⟨i2, k2, e3, e4, hik2⟩ := has_in p1.2.2.2.2.2 hix.2
              have r6 := r1.2.2.2.2.2
              have p6 := p1.2.2.2.2.2
              have ek : k2 = k := nI_inj31 (by omega) (by omega) (e4.symm.trans e2)
              subst e1 e2 e3 ek
              clear e4
              refine ⟨_, 2, _, by decide, c_copy_ok31 u _ _ _ r1 _ _ _ p1 i i2 k2 z1 z2 hst hik hik2, fun r v h => ⟨h.1, 2, _, by decide, m_copy_ok v 3 (by decide) _ _ _ (r2.keep (ks := [41]) (by rw [h.2]; exact rwr_fr) (by decide)) 1 (by decide) _ _ _ (p2.keep (ks := [41]) (by rw [h.2]; exact rwr_fr) (by decide)) i i2 k2 z1 z2 hst hik hik2, fun r w k => ⟨k.1, ?_⟩⟩⟩
              exact hI.copy 3 1 (by decide) (by decide) i i2 k2 (by omega) (by omega) h.2 k.2.1 k.2.2.1 k.2.2.2.1
            · exact PRi.fi hI (c_copy_index31 u _ _ _ r1 _ _ _ p1 xa xb xc z1 z2 hst hix) (fun v hf => m_copy_index v 3 (by decide) _ _ _ (r2.keep hf (by decide)) 1 (by decide) _ _ _ (p2.keep hf (by decide)) xa xb xc z1 z2 hst hix)
          · exact PRi.fi hI (c_copy_store31 u _ _ _ r1 _ _ _ p1 xa xb xc z1 z2 hst) (fun v hf => m_copy_store v 3 (by decide) _ _ _ (r2.keep hf (by decide)) 1 (by decide) _ _ _ (p2.keep hf (by decide)) xa xb xc z1 z2 hst)
        · exact PRi.fi hI (c_copy_null31 u _ _ _ r1 _ _ _ p1 xa xb xc hnl) (fun v hf => m_copy_null v 3 (by decide) _ _ _ (r2.keep hf (by decide)) 1 (by decide) _ _ _ (p2.keep hf (by decide)) xa xb xc hnl)
      · obtain ⟨r1, r2, r3⟩ := hI.2.2.2.2.2.2.2.1 3 (by decide)
        obtain ⟨p1, p2, p3⟩ := hI.2.2.2.2.2.2.2.1 2 (by decide)
        by_cases hnl : (sh 3).1 = 0 ∧ (sh 2).1 = 0
        · obtain ⟨z1, z2⟩ := hnl
          by_cases hst : (sh 3).2.1 = (sh 2).2.1
          · by_cases hix : hasI (sh 3).2.2 xa xc ∧ hasI (sh 2).2.2 xb xc
            · obtain ⟨i, k, e1, e2, hik⟩ := has_in r1.2.2.2.2.2 hix.1
              obtain ⟨i2, k2, e3, e4, hik2⟩ := has_in p1.2.2.2.2.2 hix.2
              have r6 := r1.2.2.2.2.2
              have p6 := p1.2.2.2.2.2
              have ek : k2 = k := nI_inj31 (by omega) (by omega) (e4.symm.trans e2)
              subst e1 e2 e3 ek
              clear e4
              refine ⟨_, 2, _, by decide, c_copy_ok32 u _ _ _ r1 _ _ _ p1 i i2 k2 z1 z2 hst hik hik2, fun r v h => ⟨h.1, 2, _, by decide, m_copy_ok v 3 (by decide) _ _ _ (r2.keep (ks := [43]) (by rw [h.2]; exact rwr_fr) (by decide)) 2 (by decide) _ _ _ (p2.keep (ks := [43]) (by rw [h.2]; exact rwr_fr) (by decide)) i i2 k2 z1 z2 hst hik hik2, fun r w k => ⟨k.1, ?_⟩⟩⟩
              exact hI.copy 3 2 (by decide) (by decide) i i2 k2 (by omega) (by omega) h.2 k.2.1 k.2.2.1 k.2.2.2.1
            · exact PRi.fi hI (c_copy_index32 u _ _ _ r1 _ _ _ p1 xa xb xc z1 z2 hst hix) (fun v hf => m_copy_index v 3 (by decide) _ _ _ (r2.keep hf (by decide)) 2 (by decide) _ _ _ (p2.keep hf (by decide)) xa xb xc z1 z2 hst hix)
          · exact PRi.fi hI (c_copy_store32 u _ _ _ r1 _ _ _ p1 xa xb xc z1 z2 hst) (fun v hf => m_copy_store v 3 (by decide) _ _ _ (r2.keep hf (by decide)) 2 (by decide) _ _ _ (p2.keep hf (by decide)) xa xb xc z1 z2 hst)
        · exact PRi.fi hI (c_copy_null32 u _ _ _ r1 _ _ _ p1 xa xb xc hnl) (fun v hf => m_copy_null v 3 (by decide) _ _ _ (r2.keep hf (by decide)) 2 (by decide) _ _ _ (p2.keep hf (by decide)) xa xb xc hnl)
      · obtain ⟨r1, r2, r3⟩ := hI.2.2.2.2.2.2.2.1 3 (by decide)
        obtain ⟨p1, p2, p3⟩ := hI.2.2.2.2.2.2.2.1 3 (by decide)
        by_cases hnl : (sh 3).1 = 0 ∧ (sh 3).1 = 0
        · obtain ⟨z1, z2⟩ := hnl
          by_cases hst : (sh 3).2.1 = (sh 3).2.1
          · by_cases hix : hasI (sh 3).2.2 xa xc ∧ hasI (sh 3).2.2 xb xc
            · obtain ⟨i, k, e1, e2, hik⟩ := has_in r1.2.2.2.2.2 hix.1
              obtain ⟨i2, k2, e3, e4, hik2⟩ := has_in p1.2.2.2.2.2 hix.2
              have r6 := r1.2.2.2.2.2
              have p6 := p1.2.2.2.2.2
              have ek : k2 = k := nI_inj31 (by omega) (by omega) (e4.symm.trans e2)
              subst e1 e2 e3 ek
              clear e4
              refine ⟨_, 2, _, by decide, c_copy_ok33 u _ _ _ r1 i i2 k2 z1 z2 hik hik2, fun r v h => ⟨h.1, 2, _, by decide, m_copy_ok v 3 (by decide) _ _ _ (r2.keep (ks := [45]) (by rw [h.2]; exact rwr_fr) (by decide)) 3 (by decide) _ _ _ (p2.keep (ks := [45]) (by rw [h.2]; exact rwr_fr) (by decide)) i i2 k2 z1 z2 hst hik hik2, fun r w k => ⟨k.1, ?_⟩⟩⟩
              exact hI.copy 3 3 (by decide) (by decide) i i2 k2 (by omega) (by omega) h.2 k.2.1 k.2.2.1 k.2.2.2.1
            · exact PRi.fi hI (c_copy_index33 u _ _ _ r1 xa xb xc z1 z2 hix) (fun v hf => m_copy_index v 3 (by decide) _ _ _ (r2.keep hf (by decide)) 3 (by decide) _ _ _ (p2.keep hf (by decide)) xa xb xc z1 z2 hst hix)
          · exact absurd rfl hst
        · exact PRi.fi hI (c_copy_null33 u _ _ _ r1 xa xb xc hnl) (fun v hf => m_copy_null v 3 (by decide) _ _ _ (r2.keep hf (by decide)) 3 (by decide) _ _ _ (p2.keep hf (by decide)) xa xb xc hnl)
  · exact PRi.ee hI (c_copy_bad u x xa y xb xc hg) (fun v hv => m_copy_bad v x xa y xb xc hg)
theorem pr_write (u : ST) (h : INV u) (x y : Int32) : PRi me_N_write me_R_write [.int x, .int y] u := by
  obtain ⟨T, n, b, n', b', G, sh, hI⟩ := h
  by_cases hg : (0 ≤ x ∧ x < nI (tnb T)) ∧ (0 ≤ y ∧ y < nI 4)
  · obtain ⟨g1, g2⟩ := hg
    obtain ⟨k, hk, rfl⟩ := inr_f (n := tnb T) (by have := hI.1.1.1; omega) g1
    obtain ⟨j, hj, rfl⟩ := inr_f (n := 4) (by decide) g2
    rcases (show j = 0 ∨ j = 1 ∨ j = 2 ∨ j = 3 by omega) with rfl | rfl | rfl | rfl
    · obtain ⟨r1, r2, r3⟩ := hI.2.2.2.2.2.2.2.1 0 (by decide)
      by_cases hlo : (sh 0).1 = 0
      · refine ⟨_, 5, _, by decide, c_write_ok0 u T hI.2.1 hI.1.1 hI.2.2.2.2.2.1.2.2.2.2.2.2.2.2.2.1 _ _ _ r1 hlo k hk, fun r v h => ⟨h.1, 8, _, by decide, m_write_ok v T n b n' b' (hI.2.2.2.2.2.1.keep h.2.2.2 (by decide) (by rw [h.2.2.2 48 (by decide)])) hI.1.1 k hk 0 (by decide) _ _ _ (r2.keep h.2.2.2 (by decide)) hlo, fun r w m => ⟨m.1, ?_⟩⟩⟩
        have s6 := r1.2.2.2.2.2
        have m1 := Nat.min_le_left (sh 0).2.2 24
        refine hI.items (v := v) 0 (by decide) (ks := VL) (js := 81 :: MQL) h.2.2.2 (by decide) m.2.2.2.1 (fun k hk => (List.mem_cons.mp hk).elim Or.inl (fun z => Or.inr (Or.inr z))) m.2.2.2.2.1 (fun j hj => ?_) (fun x hx => by rw [m.2.2.1 x (by omega), h.2.2.2 81 (by decide)])
        by_cases e : j < min (sh 0).2.2 24
        · exact (h.2.1 j e).trans (m.2.1 j e).symm
        · exact (h.2.2.1 j (by omega)).trans ((r3 j hj).trans (by rw [m.2.2.1 _ (by omega), h.2.2.2 81 (by decide)]))
      · exact PRi.fq hI (c_write_null0 u T hI.2.1 hI.1.1 hI.2.2.2.2.2.1.2.2.2.2.2.2.2.2.2.1 _ _ _ r1 (by have := r1.2.2.2.1; omega) k hk) (fun v hf => m_write_null v T n b n' b' (hI.2.2.2.2.2.1.keep hf (by decide) (by rw [hf 48 (by decide)])) hI.1.1 k hk 0 (by decide) _ _ _ (r2.keep hf (by decide)) (by have := r1.2.2.2.1; omega))
    · obtain ⟨r1, r2, r3⟩ := hI.2.2.2.2.2.2.2.1 1 (by decide)
      by_cases hlo : (sh 1).1 = 0
      · refine ⟨_, 5, _, by decide, c_write_ok1 u T hI.2.1 hI.1.1 hI.2.2.2.2.2.1.2.2.2.2.2.2.2.2.2.1 _ _ _ r1 hlo k hk, fun r v h => ⟨h.1, 8, _, by decide, m_write_ok v T n b n' b' (hI.2.2.2.2.2.1.keep h.2.2.2 (by decide) (by rw [h.2.2.2 48 (by decide)])) hI.1.1 k hk 1 (by decide) _ _ _ (r2.keep h.2.2.2 (by decide)) hlo, fun r w m => ⟨m.1, ?_⟩⟩⟩
        have s6 := r1.2.2.2.2.2
        have m1 := Nat.min_le_left (sh 1).2.2 24
        refine hI.items (v := v) 1 (by decide) (ks := VL) (js := 81 :: MQL) h.2.2.2 (by decide) m.2.2.2.1 (fun k hk => (List.mem_cons.mp hk).elim Or.inl (fun z => Or.inr (Or.inr z))) m.2.2.2.2.1 (fun j hj => ?_) (fun x hx => by rw [m.2.2.1 x (by omega), h.2.2.2 81 (by decide)])
        by_cases e : j < min (sh 1).2.2 24
        · exact (h.2.1 j e).trans (m.2.1 j e).symm
        · exact (h.2.2.1 j (by omega)).trans ((r3 j hj).trans (by rw [m.2.2.1 _ (by omega), h.2.2.2 81 (by decide)]))
      · exact PRi.fq hI (c_write_null1 u T hI.2.1 hI.1.1 hI.2.2.2.2.2.1.2.2.2.2.2.2.2.2.2.1 _ _ _ r1 (by have := r1.2.2.2.1; omega) k hk) (fun v hf => m_write_null v T n b n' b' (hI.2.2.2.2.2.1.keep hf (by decide) (by rw [hf 48 (by decide)])) hI.1.1 k hk 1 (by decide) _ _ _ (r2.keep hf (by decide)) (by have := r1.2.2.2.1; omega))
    · obtain ⟨r1, r2, r3⟩ := hI.2.2.2.2.2.2.2.1 2 (by decide)
      by_cases hlo : (sh 2).1 = 0
      · refine ⟨_, 5, _, by decide, c_write_ok2 u T hI.2.1 hI.1.1 hI.2.2.2.2.2.1.2.2.2.2.2.2.2.2.2.1 _ _ _ r1 hlo k hk, fun r v h => ⟨h.1, 8, _, by decide, m_write_ok v T n b n' b' (hI.2.2.2.2.2.1.keep h.2.2.2 (by decide) (by rw [h.2.2.2 48 (by decide)])) hI.1.1 k hk 2 (by decide) _ _ _ (r2.keep h.2.2.2 (by decide)) hlo, fun r w m => ⟨m.1, ?_⟩⟩⟩
        have s6 := r1.2.2.2.2.2
        have m1 := Nat.min_le_left (sh 2).2.2 24
        refine hI.items (v := v) 2 (by decide) (ks := VL) (js := 81 :: MQL) h.2.2.2 (by decide) m.2.2.2.1 (fun k hk => (List.mem_cons.mp hk).elim Or.inl (fun z => Or.inr (Or.inr z))) m.2.2.2.2.1 (fun j hj => ?_) (fun x hx => by rw [m.2.2.1 x (by omega), h.2.2.2 81 (by decide)])
        by_cases e : j < min (sh 2).2.2 24
        · exact (h.2.1 j e).trans (m.2.1 j e).symm
        · exact (h.2.2.1 j (by omega)).trans ((r3 j hj).trans (by rw [m.2.2.1 _ (by omega), h.2.2.2 81 (by decide)]))
      · exact PRi.fq hI (c_write_null2 u T hI.2.1 hI.1.1 hI.2.2.2.2.2.1.2.2.2.2.2.2.2.2.2.1 _ _ _ r1 (by have := r1.2.2.2.1; omega) k hk) (fun v hf => m_write_null v T n b n' b' (hI.2.2.2.2.2.1.keep hf (by decide) (by rw [hf 48 (by decide)])) hI.1.1 k hk 2 (by decide) _ _ _ (r2.keep hf (by decide)) (by have := r1.2.2.2.1; omega))
    · obtain ⟨r1, r2, r3⟩ := hI.2.2.2.2.2.2.2.1 3 (by decide)
      by_cases hlo : (sh 3).1 = 0
      · refine ⟨_, 5, _, by decide, c_write_ok3 u T hI.2.1 hI.1.1 hI.2.2.2.2.2.1.2.2.2.2.2.2.2.2.2.1 _ _ _ r1 hlo k hk, fun r v h => ⟨h.1, 8, _, by decide, m_write_ok v T n b n' b' (hI.2.2.2.2.2.1.keep h.2.2.2 (by decide) (by rw [h.2.2.2 48 (by decide)])) hI.1.1 k hk 3 (by decide) _ _ _ (r2.keep h.2.2.2 (by decide)) hlo, fun r w m => ⟨m.1, ?_⟩⟩⟩
        have s6 := r1.2.2.2.2.2
        have m1 := Nat.min_le_left (sh 3).2.2 24
        refine hI.items (v := v) 3 (by decide) (ks := VL) (js := 81 :: MQL) h.2.2.2 (by decide) m.2.2.2.1 (fun k hk => (List.mem_cons.mp hk).elim Or.inl (fun z => Or.inr (Or.inr z))) m.2.2.2.2.1 (fun j hj => ?_) (fun x hx => by rw [m.2.2.1 x (by omega), h.2.2.2 81 (by decide)])
        by_cases e : j < min (sh 3).2.2 24
        · exact (h.2.1 j e).trans (m.2.1 j e).symm
        · exact (h.2.2.1 j (by omega)).trans ((r3 j hj).trans (by rw [m.2.2.1 _ (by omega), h.2.2.2 81 (by decide)]))
      · exact PRi.fq hI (c_write_null3 u T hI.2.1 hI.1.1 hI.2.2.2.2.2.1.2.2.2.2.2.2.2.2.2.1 _ _ _ r1 (by have := r1.2.2.2.1; omega) k hk) (fun v hf => m_write_null v T n b n' b' (hI.2.2.2.2.2.1.keep hf (by decide) (by rw [hf 48 (by decide)])) hI.1.1 k hk 3 (by decide) _ _ _ (r2.keep hf (by decide)) (by have := r1.2.2.2.1; omega))
  · exact PRi.eq hI (c_write_bad u T hI.2.1.2.2.2.2.2.2.2.2.1 x y hg) (fun v hv => m_write_bad v T n b n' b' hv.2.2.2.2.2.1 hI.1.1 x y hg)

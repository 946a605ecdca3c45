/-! the model: its whole run -/
/-- what is kept of the first n weeks -/
def RC (T : TD) (n : Nat) (u : ST) : Prop := (∀ w, w < n → ∀ k, k < tnb T → u.1 68 (8 * w + k) = nI (vis (vo T (w + 1)) k) ∧ u.1 69 (8 * w + k) = nmv (vnm (vo T (w + 1)) k) ∧ u.1 70 (8 * w + k) = nI (vgr (vo T (w + 1)) k) ∧ u.1 71 (8 * w + k) = nI (vho (vo T (w + 1)) k)) ∧ ∀ w, w < n → ∀ j, j < 64 → u.1 72 (64 * w + j) = nI (vh (vo T (w + 1)) j)
theorem RC.next {T : TD} {w : Nat} {u v : ST} (n8 : tnb T ≤ 8) (h : RC T w u) (hW : WR T (vo T (w + 1)) w (tnb T) 64 u v) : RC T (w + 1) v := by
  obtain ⟨h1, h2, h3, h4⟩ := hW
  refine ⟨fun w' hw k hk => ?_, fun w' hw j hj => ?_⟩
  · by_cases e : w' = w
    · rw [e]; exact h1 k hk
    · have q := h2 (8 * w' + k) (by omega)
      rw [q.1, q.2.1, q.2.2.1, q.2.2.2]
      exact h.1 w' (by omega) k hk
  · by_cases e : w' = w
    · rw [e]; exact h3 j hj
    · rw [h4 (64 * w' + j) (by omega)]
      exact h.2 w' (by omega) j hj
set_option maxHeartbeats 2000000 in
theorem m_runs (S : ST) (T : TD) (hT : MT T S) (hto : tok T) : EX me_R_runs 3 [.ref 48] S (fun r u => r = none ∧ MV T (vo T 24) u ∧ RC T 24 u ∧ MT T u ∧ fr MW S u ∧ f48 [24, 25] S u ∧ u.2 = S.2) := by
  refine EX.of mok_R_runs (Nat.le_of_ble_eq_true rfl) ?_
  obtain ⟨n8, n9, hbt, het, hht, hlo⟩ := id hto
  have H3 : ∀ i, i ≤ 24 → ∀ u : ST, MV T (vo T i) u → RC T i u → fr MW S u → f48 [24, 25] S u → u.2 = S.2 → BX me_R_runs 3 none (fun r u => r = none ∧ MV T (vo T 24) u ∧ RC T 24 u ∧ MT T u ∧ fr MW S u ∧ f48 [24, 25] S u ∧ u.2 = S.2) (87, [(0, .ref 48), (1, .int (nI i))], [], u) := by
    refine loop_up (P := fun i => ∀ u : ST, MV T (vo T i) u → RC T i u → fr MW S u → f48 [24, 25] S u → u.2 = S.2 → BX me_R_runs 3 none (fun r u => r = none ∧ MV T (vo T 24) u ∧ RC T 24 u ∧ MT T u ∧ fr MW S u ∧ f48 [24, 25] S u ∧ u.2 = S.2) (87, [(0, .ref 48), (1, .int (nI i))], [], u)) (24) ?_ ?_
    · intro u hMu hR hf h8 h2
      refine run_ok 2 (c' := (90, [(0, .ref 48), (1, .int (nI 24))], [.int (nI 24), .int (nI 24)], u)) rfl ?_
      refine x_icmpN_ge 104 rfl rfl (by omega) (by omega) (fun h90 => ?_) (fun hn => absurd (Nat.le_refl _) hn)
      exact x_ret (r := none) rfl rfl trivial ⟨rfl, hMu, hR, hT.stay hf h8, hf, h8, h2⟩ rfl
    · intro i hi ih u hMu hR hf h8 h2
      refine run_ok 2 (c' := (90, [(0, .ref 48), (1, .int (nI i))], [.int (nI 24), .int (nI i)], u)) rfl ?_
      refine x_icmpN_ge 104 rfl rfl (by omega) (by omega) (fun hn => absurd hn (show ¬ 24 ≤ i by omega)) (fun h90 => ?_)
      refine run_ok 2 (c' := (95, [(0, .ref 48), (1, .int (nI i))], [.int (nI i), .ref 48], u)) rfl ?_
      refine x_callV [.int (nI i)] rfl cv_R_goesBy.1 lk_7_217 cv_R_goesBy.2.1 cv_R_goesBy.2.2.1 rfl cv_R_goesBy.2.2.2.1 rfl rfl (Nat.le_of_ble_eq_true rfl) (by decide) cv_R_goesBy.2.2.2.2 (m_goesBy u T (vo T i) i (hT.stay hf h8) hto hMu (vk_vo hto i (by omega)).1 (vk_vo hto i (by omega)).2 hi) ?_
      rintro r v ⟨hr, hMv, hWv, hfv, h8v, h2v⟩
      rw [hr]
      clear hr r
      refine run_ok 1 (c' := (101, [(0, .ref 48), (1, .int (nI i + nI 1))], [], v)) rfl ?_
      rw [nI_add i 1]
      refine run_ok 1 (c' := (87, [(0, .ref 48), (1, .int (nI (i + 1)))], [], v)) rfl ?_
      exact ih v hMv (hR.next n8 hWv) (hf.tr hfv) (h8.tr h8v) (h2v.trans h2)
  have H2 : ∀ i, i ≤ tnb T → ∀ u : ST, rh u 63 64 (th T) → rh u 64 i (fun _ => 0) → (∀ k, k < i → u.1 65 k = nmv 8) → rh u 66 i (fun _ => 0) → rh u 67 i (tst T) → fr MW S u → f48 [24, 25] S u → u.2 = S.2 → BX me_R_runs 3 none (fun r u => r = none ∧ MV T (vo T 24) u ∧ RC T 24 u ∧ MT T u ∧ fr MW S u ∧ f48 [24, 25] S u ∧ u.2 = S.2) (28, [(0, .ref 48), (1, .int (nI i))], [], u) := by
    refine loop_up (P := fun i => ∀ u : ST, rh u 63 64 (th T) → rh u 64 i (fun _ => 0) → (∀ k, k < i → u.1 65 k = nmv 8) → rh u 66 i (fun _ => 0) → rh u 67 i (tst T) → fr MW S u → f48 [24, 25] S u → u.2 = S.2 → BX me_R_runs 3 none (fun r u => r = none ∧ MV T (vo T 24) u ∧ RC T 24 u ∧ MT T u ∧ fr MW S u ∧ f48 [24, 25] S u ∧ u.2 = S.2) (28, [(0, .ref 48), (1, .int (nI i))], [], u)) (tnb T) ?_ ?_
    · intro u a1 a2 a3 a4 a5 hf h8 h2
      have hTu : MT T u := hT.stay hf h8
      obtain ⟨t1, t2, t3, t4, t5, t6, t7, t8, t9, t10, t11⟩ := id hTu
      refine run_ok 3 (c' := (33, [(0, .ref 48), (1, .int (nI (tnb T)))], [.int (u.1 48 5), .int (nI (tnb T))], u)) rfl ?_
      refine x_top (v' := nI (tnb T)) t9 ?_
      refine x_icmpN_ge 75 rfl rfl (by omega) (by omega) (fun h33 => ?_) (fun hn => absurd (Nat.le_refl _) hn)
      refine run_ok 8 (c' := (87, [(0, .ref 48), (1, .int (nI 0))], [], (pt (pt u 48 24 (-1)) 48 25 (-1)))) rfl ?_
      exact H3 0 (by omega) _ ⟨a1, a2, a3, a4, a5, rfl, rfl⟩ ⟨fun _ z => absurd z (Nat.not_lt_zero _), fun _ z => absurd z (Nat.not_lt_zero _)⟩ ((hf.pt (by decide)).pt (by decide)) (h8.tr (fun j hj => by show upd (upd (u.1 48) 24 (-1)) 25 (-1) j = _; rw [upd_n (fun e => hj (by rw [e]; decide)), upd_n (fun e => hj (by rw [e]; decide))])) h2
    · intro i hi ih u a1 a2 a3 a4 a5 hf h8 h2
      have hTu : MT T u := hT.stay hf h8
      obtain ⟨t1, t2, t3, t4, t5, t6, t7, t8, t9, t10, t11⟩ := id hTu
      refine run_ok 3 (c' := (33, [(0, .ref 48), (1, .int (nI i))], [.int (u.1 48 5), .int (nI i)], u)) rfl ?_
      refine x_top (v' := nI (tnb T)) t9 ?_
      refine x_icmpN_ge 75 rfl rfl (by omega) (by omega) (fun hn => absurd hn (show ¬ tnb T ≤ i by omega)) (fun h33 => ?_)
      refine run_ok 4 (c' := (42, [(0, .ref 48), (1, .int (nI i))], [.int (nI 0), .int (nI i), .ref 64], u)) rfl ?_
      refine x_isN rfl rfl (by decide) (by omega) ?_
      refine run_ok 4 (c' := (49, [(0, .ref 48), (1, .int (nI i))], [.int (-1), .int (nI i), .ref 65], (pt u 64 i (nI 0)))) rfl ?_
      refine x_isN rfl rfl (by decide) (by omega) ?_
      refine run_ok 4 (c' := (56, [(0, .ref 48), (1, .int (nI i))], [.int (nI 0), .int (nI i), .ref 66], (pt (pt u 64 i (nI 0)) 65 i (-1)))) rfl ?_
      refine x_isN rfl rfl (by decide) (by omega) ?_
      refine run_ok 6 (c' := (67, [(0, .ref 48), (1, .int (nI i))], [.int (nI i), .ref 56, .int (nI i), .ref 67], (pt (pt (pt u 64 i (nI 0)) 65 i (-1)) 66 i (nI 0)))) rfl ?_
      refine x_iaN (nI (tst T i)) rfl rfl (by decide) (by omega) (t5 i (by omega)) ?_
      refine x_isN rfl rfl (by decide) (by omega) ?_
      refine run_ok 1 (c' := (72, [(0, .ref 48), (1, .int (nI i + nI 1))], [], (pt (pt (pt (pt u 64 i (nI 0)) 65 i (-1)) 66 i (nI 0)) 67 i (nI (tst T i))))) rfl ?_
      rw [nI_add i 1]
      refine run_ok 1 (c' := (28, [(0, .ref 48), (1, .int (nI (i + 1)))], [], (pt (pt (pt (pt u 64 i (nI 0)) 65 i (-1)) 66 i (nI 0)) 67 i (nI (tst T i))))) rfl ?_
      have ex : ∀ (f : Nat → Nat) (k : Nat), rh u k i f → ∀ j, j < i + 1 → upd (u.1 k) i (nI (f i)) j = nI (f j) := by
        intro f k h j hj
        unfold upd
        split
        · rename_i e; rw [e]
        · exact h j (by omega)
      refine ih _ a1 (ex (fun _ => 0) 64 a2) (fun j hj => ?_) (ex (fun _ => 0) 66 a4) (ex (tst T) 67 a5) ((((hf.pt (by decide)).pt (by decide)).pt (by decide)).pt (by decide)) h8 h2
      show upd (u.1 65) i (-1) j = _
      unfold upd
      split
      · rfl
      · exact a3 j (by omega)
  have H1 : ∀ i, i ≤ 64 → ∀ u : ST, rh u 63 i (th T) → fr MW S u → f48 [24, 25] S u → u.2 = S.2 → BX me_R_runs 3 none (fun r u => r = none ∧ MV T (vo T 24) u ∧ RC T 24 u ∧ MT T u ∧ fr MW S u ∧ f48 [24, 25] S u ∧ u.2 = S.2) (2, [(0, .ref 48), (1, .int (nI i))], [], u) := by
    refine loop_up (P := fun i => ∀ u : ST, rh u 63 i (th T) → fr MW S u → f48 [24, 25] S u → u.2 = S.2 → BX me_R_runs 3 none (fun r u => r = none ∧ MV T (vo T 24) u ∧ RC T 24 u ∧ MT T u ∧ fr MW S u ∧ f48 [24, 25] S u ∧ u.2 = S.2) (2, [(0, .ref 48), (1, .int (nI i))], [], u)) (64) ?_ ?_
    · intro u a1 hf h8 h2
      refine run_ok 2 (c' := (5, [(0, .ref 48), (1, .int (nI 64))], [.int (nI 64), .int (nI 64)], u)) rfl ?_
      refine x_icmpN_ge 26 rfl rfl (by omega) (by omega) (fun h5 => ?_) (fun hn => absurd (Nat.le_refl _) hn)
      refine run_ok 2 (c' := (28, [(0, .ref 48), (1, .int (nI 0))], [], u)) rfl ?_
      exact H2 0 (Nat.zero_le _) u a1 (fun j hj => absurd hj (Nat.not_lt_zero _)) (fun j hj => absurd hj (Nat.not_lt_zero _)) (fun j hj => absurd hj (Nat.not_lt_zero _)) (fun j hj => absurd hj (Nat.not_lt_zero _)) hf h8 h2
    · intro i hi ih u a1 hf h8 h2
      have hTu : MT T u := hT.stay hf h8
      obtain ⟨t1, t2, t3, t4, t5, t6, t7, t8, t9, t10, t11⟩ := id hTu
      refine run_ok 2 (c' := (5, [(0, .ref 48), (1, .int (nI i))], [.int (nI 64), .int (nI i)], u)) rfl ?_
      refine x_icmpN_ge 26 rfl rfl (by omega) (by omega) (fun hn => absurd hn (show ¬ 64 ≤ i by omega)) (fun h5 => ?_)
      refine run_ok 6 (c' := (18, [(0, .ref 48), (1, .int (nI i))], [.int (nI i), .ref 52, .int (nI i), .ref 63], u)) rfl ?_
      refine x_iaN (nI (th T i)) rfl rfl (by decide) (by omega) (t1 i (by omega)) ?_
      refine x_isN rfl rfl (by decide) (by omega) ?_
      refine run_ok 1 (c' := (23, [(0, .ref 48), (1, .int (nI i + nI 1))], [], (pt u 63 i (nI (th T i))))) rfl ?_
      rw [nI_add i 1]
      refine run_ok 1 (c' := (2, [(0, .ref 48), (1, .int (nI (i + 1)))], [], (pt u 63 i (nI (th T i))))) rfl ?_
      refine ih _ (fun j hj => ?_) (hf.pt (by decide)) h8 h2
      show upd (u.1 63) i _ j = _
      unfold upd
      split
      · rename_i e; rw [e]
      · exact a1 j (by omega)
  refine run_ok 2 (c' := (2, [(0, .ref 48), (1, .int (nI 0))], [], S)) rfl ?_
  exact H1 0 (Nat.zero_le _) S (fun j hj => absurd hj (Nat.not_lt_zero _)) fr.rf f48.rf rfl


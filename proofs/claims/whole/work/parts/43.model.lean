/-! the model: a week goes by -/
abbrev MW : List Nat := [48, 63, 64, 65, 66, 67, 68, 69, 70, 71, 72]
theorem MT.stay {T : TD} {u v : ST} (h : MT T u) (hf : fr MW u v) (h8 : f48 [24, 25] u v) : MT T v := by
  obtain ⟨h1, h2, h3, h4, h5, h6, h7, h8', h9, h10, h11⟩ := h
  exact ⟨h1.keep hf (by decide), h2.keep hf (by decide), h3.keep hf (by decide), h4.keep hf (by decide), h5.keep hf (by decide), h6.keep hf (by decide), h7.keep hf (by decide), h8'.keep hf (by decide), by rw [h8 5 (by decide)]; exact h9, by rw [h8 14 (by decide)]; exact h10, by rw [h8 18 (by decide)]; exact h11⟩
/-- what of a week is kept: of the first i boats, of the first j hates; the weeks ahead stay -/
def WR (T : TD) (V : VS) (w i j : Nat) (S u : ST) : Prop := (∀ k, k < i → u.1 68 (8 * w + k) = nI (vis V k) ∧ u.1 69 (8 * w + k) = nmv (vnm V k) ∧ u.1 70 (8 * w + k) = nI (vgr V k) ∧ u.1 71 (8 * w + k) = nI (vho V k)) ∧ (∀ n, n < 8 * w → u.1 68 n = S.1 68 n ∧ u.1 69 n = S.1 69 n ∧ u.1 70 n = S.1 70 n ∧ u.1 71 n = S.1 71 n) ∧ (∀ k, k < j → u.1 72 (64 * w + k) = nI (vh V k)) ∧ ∀ n, n < 64 * w → u.1 72 n = S.1 72 n
theorem WR.boat {T : TD} {V : VS} {w i j : Nat} {S u : ST} {a b c d : Int32} (h : WR T V w i j S u) (ha : a = nI (vis V i)) (hb : b = nmv (vnm V i)) (hc : c = nI (vgr V i)) (hd : d = nI (vho V i)) : WR T V w (i + 1) j S (pt (pt (pt (pt u 68 (8 * w + i) a) 69 (8 * w + i) b) 70 (8 * w + i) c) 71 (8 * w + i) d) := by
  obtain ⟨h1, h2, h3, h4⟩ := h
  refine ⟨fun k hk => ?_, fun n hn => ?_, h3, h4⟩
  · show upd (u.1 68) _ _ _ = _ ∧ upd (u.1 69) _ _ _ = _ ∧ upd (u.1 70) _ _ _ = _ ∧ upd (u.1 71) _ _ _ = _
    by_cases e : k = i
    · rw [e, upd_s, upd_s, upd_s, upd_s]; exact ⟨ha, hb, hc, hd⟩
    · rw [upd_n (by omega), upd_n (by omega), upd_n (by omega), upd_n (by omega)]; exact h1 k (by omega)
  · show upd (u.1 68) _ _ _ = _ ∧ upd (u.1 69) _ _ _ = _ ∧ upd (u.1 70) _ _ _ = _ ∧ upd (u.1 71) _ _ _ = _
    rw [upd_n (by omega), upd_n (by omega), upd_n (by omega), upd_n (by omega)]; exact h2 n hn
theorem WR.hate {T : TD} {V : VS} {w i j : Nat} {S u : ST} {a : Int32} (h : WR T V w i j S u) (ha : a = nI (vh V j)) : WR T V w i (j + 1) S (pt u 72 (64 * w + j) a) := by
  obtain ⟨h1, h2, h3, h4⟩ := h
  refine ⟨h1, h2, fun k hk => ?_, fun n hn => ?_⟩
  · show upd (u.1 72) _ _ _ = _
    by_cases e : k = j
    · rw [e, upd_s]; exact ha
    · rw [upd_n (by omega)]; exact h3 k (by omega)
  · show upd (u.1 72) _ _ _ = _
    rw [upd_n (by omega)]; exact h4 n hn
theorem WR.zero {T : TD} {V : VS} {w : Nat} {S u : ST} {ks : List Nat} (hf : fr ks S u) (hk : 68 ∉ ks ∧ 69 ∉ ks ∧ 70 ∉ ks ∧ 71 ∉ ks ∧ 72 ∉ ks) : WR T V w 0 0 S u :=
  ⟨fun k hk => absurd hk (Nat.not_lt_zero _), fun n _ => by rw [hf 68 hk.1, hf 69 hk.2.1, hf 70 hk.2.2.1, hf 71 hk.2.2.2.1]; exact ⟨rfl, rfl, rfl, rfl⟩, fun k hk => absurd hk (Nat.not_lt_zero _), fun n _ => by rw [hf 72 hk.2.2.2.2]⟩
set_option maxHeartbeats 2000000 in
theorem m_goesBy (S : ST) (T : TD) (V : VS) (w : Nat) (hT : MT T S) (hto : tok T) (hM : MV T V S) (hV : vk T V) (hul : ul T w V) (hw : w < 24) : EX me_R_goesBy 2 [.ref 48, .int (nI w)] S (fun r u => r = none ∧ MV T (wkf T w V) u ∧ WR T (wkf T w V) w (tnb T) 64 S u ∧ fr MW S u ∧ f48 [24, 25] S u ∧ u.2 = S.2) := by
  refine EX.of mok_R_goesBy (Nat.le_of_ble_eq_true rfl) ?_
  obtain ⟨n8, n9, hbt, het, hht, hlo⟩ := id hto
  obtain ⟨k1, k2, k3⟩ := vk_evs (w := w) hV hto (tne T) (Nat.le_refl _)
  have hu1 : ul T w (evs T w (tne T) V) := fun k hk hl => by rw [k2, k3]; exact hul k hk hl
  obtain ⟨l1, l2, l3⟩ := vk_lnc k1 hto hu1 (tnb T) (Nat.le_refl _)
  have hV3 := (vk_wkf hV hto hw hul).1
  have H5 : ∀ i, i ≤ 64 → ∀ u : ST, MV T ((wkf T w V)) u → WR T (wkf T w V) w (tnb T) i S u → fr MW S u → f48 [24, 25] S u → u.2 = S.2 → BX me_R_goesBy 2 none (fun r u => r = none ∧ MV T (wkf T w V) u ∧ WR T (wkf T w V) w (tnb T) 64 S u ∧ fr MW S u ∧ f48 [24, 25] S u ∧ u.2 = S.2) (178, [(0, .ref 48), (1, .int (nI w)), (2, .int (nI i))], [], u) := by
    refine loop_up (P := fun i => ∀ u : ST, MV T ((wkf T w V)) u → WR T (wkf T w V) w (tnb T) i S u → fr MW S u → f48 [24, 25] S u → u.2 = S.2 → BX me_R_goesBy 2 none (fun r u => r = none ∧ MV T (wkf T w V) u ∧ WR T (wkf T w V) w (tnb T) 64 S u ∧ fr MW S u ∧ f48 [24, 25] S u ∧ u.2 = S.2) (178, [(0, .ref 48), (1, .int (nI w)), (2, .int (nI i))], [], u)) (64) ?_ ?_
    · intro u hMu hW hf h8 h2
      refine run_ok 2 (c' := (181, [(0, .ref 48), (1, .int (nI w)), (2, .int (nI 64))], [.int (nI 64), .int (nI 64)], u)) rfl ?_
      refine x_icmpN_ge 207 rfl rfl (by omega) (by omega) (fun h181 => ?_) (fun hn => absurd (Nat.le_refl _) hn)
      exact x_ret (r := none) rfl rfl trivial ⟨rfl, hMu, hW, hf, h8, h2⟩ rfl
    · intro i hi ih u hMu hW hf h8 h2
      obtain ⟨m1, m2, m3, m4, m5, m6, m7⟩ := id hMu
      refine run_ok 2 (c' := (181, [(0, .ref 48), (1, .int (nI w)), (2, .int (nI i))], [.int (nI 64), .int (nI i)], u)) rfl ?_
      refine x_icmpN_ge 207 rfl rfl (by omega) (by omega) (fun hn => absurd hn (show ¬ 64 ≤ i by omega)) (fun h181 => ?_)
      refine run_ok 5 (c' := (192, [(0, .ref 48), (1, .int (nI w)), (2, .int (nI i))], [.int ((nI 64) * (nI w)), .ref 72], u)) rfl ?_
      refine x_top (v' := nI (64 * w)) (pk_mul _ _) ?_
      refine run_ok 2 (c' := (194, [(0, .ref 48), (1, .int (nI w)), (2, .int (nI i))], [.int ((nI (64 * w)) + (nI i)), .ref 72], u)) rfl ?_
      refine x_top (v' := nI ((64 * w) + i)) (nI_add _ _) ?_
      refine run_ok 3 (c' := (199, [(0, .ref 48), (1, .int (nI w)), (2, .int (nI i))], [.int (nI i), .ref 63, .int (nI ((64 * w) + i)), .ref 72], u)) rfl ?_
      refine x_iaN (nI (vh (wkf T w V) i)) rfl rfl (by decide) (by omega) (m1 i (by omega)) ?_
      refine x_isN rfl rfl (by decide) (by omega) ?_
      refine run_ok 1 (c' := (204, [(0, .ref 48), (1, .int (nI w)), (2, .int (nI i + nI 1))], [], (pt u 72 ((64 * w) + i) (nI (vh (wkf T w V) i))))) rfl ?_
      rw [nI_add i 1]
      refine run_ok 1 (c' := (178, [(0, .ref 48), (1, .int (nI w)), (2, .int (nI (i + 1)))], [], (pt u 72 ((64 * w) + i) (nI (vh (wkf T w V) i))))) rfl ?_
      exact ih _ hMu (hW.hate rfl) (hf.pt (by decide)) h8 h2
  have H4 : ∀ i, i ≤ tnb T → ∀ u : ST, MV T ((wkf T w V)) u → WR T (wkf T w V) w i 0 S u → fr MW S u → f48 [24, 25] S u → u.2 = S.2 → BX me_R_goesBy 2 none (fun r u => r = none ∧ MV T (wkf T w V) u ∧ WR T (wkf T w V) w (tnb T) 64 S u ∧ fr MW S u ∧ f48 [24, 25] S u ∧ u.2 = S.2) (107, [(0, .ref 48), (1, .int (nI w)), (2, .int (nI i))], [], u) := by
    refine loop_up (P := fun i => ∀ u : ST, MV T ((wkf T w V)) u → WR T (wkf T w V) w i 0 S u → fr MW S u → f48 [24, 25] S u → u.2 = S.2 → BX me_R_goesBy 2 none (fun r u => r = none ∧ MV T (wkf T w V) u ∧ WR T (wkf T w V) w (tnb T) 64 S u ∧ fr MW S u ∧ f48 [24, 25] S u ∧ u.2 = S.2) (107, [(0, .ref 48), (1, .int (nI w)), (2, .int (nI i))], [], u)) (tnb T) ?_ ?_
    · intro u hMu hW hf h8 h2
      have hTu : MT T u := hT.stay (hf.sub (by decide)) h8
      obtain ⟨t1, t2, t3, t4, t5, t6, t7, t8, t9, t10, t11⟩ := id hTu
      obtain ⟨m1, m2, m3, m4, m5, m6, m7⟩ := id hMu
      refine run_ok 3 (c' := (112, [(0, .ref 48), (1, .int (nI w)), (2, .int (nI (tnb T)))], [.int (u.1 48 5), .int (nI (tnb T))], u)) rfl ?_
      refine x_top (v' := nI (tnb T)) t9 ?_
      refine x_icmpN_ge 176 rfl rfl (by omega) (by omega) (fun h112 => ?_) (fun hn => absurd (Nat.le_refl _) hn)
      refine run_ok 2 (c' := (178, [(0, .ref 48), (1, .int (nI w)), (2, .int (nI 0))], [], u)) rfl ?_
      exact H5 0 (by omega) u hMu hW hf h8 h2
    · intro i hi ih u hMu hW hf h8 h2
      have hTu : MT T u := hT.stay (hf.sub (by decide)) h8
      obtain ⟨t1, t2, t3, t4, t5, t6, t7, t8, t9, t10, t11⟩ := id hTu
      obtain ⟨m1, m2, m3, m4, m5, m6, m7⟩ := id hMu
      refine run_ok 3 (c' := (112, [(0, .ref 48), (1, .int (nI w)), (2, .int (nI i))], [.int (u.1 48 5), .int (nI i)], u)) rfl ?_
      refine x_top (v' := nI (tnb T)) t9 ?_
      refine x_icmpN_ge 176 rfl rfl (by omega) (by omega) (fun hn => absurd hn (show ¬ tnb T ≤ i by omega)) (fun h112 => ?_)
      refine run_ok 3 (c' := (119, [(0, .ref 48), (1, .int (nI w)), (2, .int (nI i))], [.int ((nI 8) * (nI w))], u)) rfl ?_
      refine x_top (v' := nI (8 * w)) (pk_mul _ _) ?_
      refine run_ok 2 (c' := (121, [(0, .ref 48), (1, .int (nI w)), (2, .int (nI i))], [.int ((nI (8 * w)) + (nI i))], u)) rfl ?_
      refine x_top (v' := nI ((8 * w) + i)) (nI_add _ _) ?_
      refine run_ok 7 (c' := (132, [(0, .ref 48), (1, .int (nI w)), (2, .int (nI i)), (3, .int (nI ((8 * w) + i)))], [.int (nI i), .ref 64, .int (nI ((8 * w) + i)), .ref 68], u)) rfl ?_
      refine x_iaN (nI (vis (wkf T w V) i)) rfl rfl (by decide) (by omega) (m2 i (by omega)) ?_
      refine x_isN rfl rfl (by decide) (by omega) ?_
      refine run_ok 6 (c' := (144, [(0, .ref 48), (1, .int (nI w)), (2, .int (nI i)), (3, .int (nI ((8 * w) + i)))], [.int (nI i), .ref 65, .int (nI ((8 * w) + i)), .ref 69], (pt u 68 ((8 * w) + i) (nI (vis (wkf T w V) i))))) rfl ?_
      refine x_iaN (nmv (vnm (wkf T w V) i)) rfl rfl (by decide) (by omega) (m3 i (by omega)) ?_
      refine x_isN rfl rfl (by decide) (by omega) ?_
      refine run_ok 6 (c' := (156, [(0, .ref 48), (1, .int (nI w)), (2, .int (nI i)), (3, .int (nI ((8 * w) + i)))], [.int (nI i), .ref 66, .int (nI ((8 * w) + i)), .ref 70], (pt (pt u 68 ((8 * w) + i) (nI (vis (wkf T w V) i))) 69 ((8 * w) + i) (nmv (vnm (wkf T w V) i))))) rfl ?_
      refine x_iaN (nI (vgr (wkf T w V) i)) rfl rfl (by decide) (by omega) (m4 i (by omega)) ?_
      refine x_isN rfl rfl (by decide) (by omega) ?_
      refine run_ok 6 (c' := (168, [(0, .ref 48), (1, .int (nI w)), (2, .int (nI i)), (3, .int (nI ((8 * w) + i)))], [.int (nI i), .ref 67, .int (nI ((8 * w) + i)), .ref 71], (pt (pt (pt u 68 ((8 * w) + i) (nI (vis (wkf T w V) i))) 69 ((8 * w) + i) (nmv (vnm (wkf T w V) i))) 70 ((8 * w) + i) (nI (vgr (wkf T w V) i))))) rfl ?_
      refine x_iaN (nI (vho (wkf T w V) i)) rfl rfl (by decide) (by omega) (m5 i (by omega)) ?_
      refine x_isN rfl rfl (by decide) (by omega) ?_
      refine run_ok 1 (c' := (173, [(0, .ref 48), (1, .int (nI w)), (2, .int (nI i + nI 1)), (3, .int (nI ((8 * w) + i)))], [], (pt (pt (pt (pt u 68 ((8 * w) + i) (nI (vis (wkf T w V) i))) 69 ((8 * w) + i) (nmv (vnm (wkf T w V) i))) 70 ((8 * w) + i) (nI (vgr (wkf T w V) i))) 71 ((8 * w) + i) (nI (vho (wkf T w V) i))))) rfl ?_
      rw [nI_add i 1]
      refine run_ok 1 (c' := (107, [(0, .ref 48), (1, .int (nI w)), (2, .int (nI (i + 1))), (3, .int (nI ((8 * w) + i)))], [], (pt (pt (pt (pt u 68 ((8 * w) + i) (nI (vis (wkf T w V) i))) 69 ((8 * w) + i) (nmv (vnm (wkf T w V) i))) 70 ((8 * w) + i) (nI (vgr (wkf T w V) i))) 71 ((8 * w) + i) (nI (vho (wkf T w V) i))))) rfl ?_
      refine x_less [0, 1, 2] rfl ?_
      exact ih _ hMu (hW.boat rfl rfl rfl rfl) ((((hf.pt (by decide)).pt (by decide)).pt (by decide)).pt (by decide)) h8 h2
  have H3 : ∀ i, i ≤ tnb T → ∀ u : ST, MV T (sls T w (lnc T w (evs T w (tne T) V) (tnb T)) i) u → fr [48, 63, 64, 65, 66, 67] S u → f48 [24, 25] S u → u.2 = S.2 → BX me_R_goesBy 2 none (fun r u => r = none ∧ MV T (wkf T w V) u ∧ WR T (wkf T w V) w (tnb T) 64 S u ∧ fr MW S u ∧ f48 [24, 25] S u ∧ u.2 = S.2) (75, [(0, .ref 48), (1, .int (nI w)), (2, .int (nI i))], [], u) := by
    refine loop_up (P := fun i => ∀ u : ST, MV T (sls T w (lnc T w (evs T w (tne T) V) (tnb T)) i) u → fr [48, 63, 64, 65, 66, 67] S u → f48 [24, 25] S u → u.2 = S.2 → BX me_R_goesBy 2 none (fun r u => r = none ∧ MV T (wkf T w V) u ∧ WR T (wkf T w V) w (tnb T) 64 S u ∧ fr MW S u ∧ f48 [24, 25] S u ∧ u.2 = S.2) (75, [(0, .ref 48), (1, .int (nI w)), (2, .int (nI i))], [], u)) (tnb T) ?_ ?_
    · intro u hMu hf h8 h2
      have hTu : MT T u := hT.stay (hf.sub (by decide)) h8
      obtain ⟨t1, t2, t3, t4, t5, t6, t7, t8, t9, t10, t11⟩ := id hTu
      obtain ⟨m1, m2, m3, m4, m5, m6, m7⟩ := id hMu
      refine run_ok 3 (c' := (80, [(0, .ref 48), (1, .int (nI w)), (2, .int (nI (tnb T)))], [.int (u.1 48 5), .int (nI (tnb T))], u)) rfl ?_
      refine x_top (v' := nI (tnb T)) t9 ?_
      refine x_icmpN_ge 105 rfl rfl (by omega) (by omega) (fun h80 => ?_) (fun hn => absurd (Nat.le_refl _) hn)
      refine run_ok 2 (c' := (107, [(0, .ref 48), (1, .int (nI w)), (2, .int (nI 0))], [], u)) rfl ?_
      exact H4 0 (by omega) u hMu (WR.zero hf (by decide)) (hf.sub (by decide)) h8 h2
    · intro i hi ih u hMu hf h8 h2
      have hTu : MT T u := hT.stay (hf.sub (by decide)) h8
      obtain ⟨t1, t2, t3, t4, t5, t6, t7, t8, t9, t10, t11⟩ := id hTu
      obtain ⟨m1, m2, m3, m4, m5, m6, m7⟩ := id hMu
      have hVu := vk_sls (w := w) l1 hto hw i (by omega)
      have q1 := (hVu.1.2.1 i (by omega)).1
      refine run_ok 3 (c' := (80, [(0, .ref 48), (1, .int (nI w)), (2, .int (nI i))], [.int (u.1 48 5), .int (nI i)], u)) rfl ?_
      refine x_top (v' := nI (tnb T)) t9 ?_
      refine x_icmpN_ge 105 rfl rfl (by omega) (by omega) (fun hn => absurd hn (show ¬ tnb T ≤ i by omega)) (fun h80 => ?_)
      refine run_ok 3 (c' := (88, [(0, .ref 48), (1, .int (nI w)), (2, .int (nI i))], [.int (nI i), .ref 64], u)) rfl ?_
      refine x_iaN (nI (vis (sls T w (lnc T w (evs T w (tne T) V) (tnb T)) i) i)) rfl rfl (by decide) (by omega) (m2 i (by omega)) ?_
      refine run_ok 1 (c' := (90, [(0, .ref 48), (1, .int (nI w)), (2, .int (nI i))], [.int (nI 1), .int (nI (vis (sls T w (lnc T w (evs T w (tne T) V) (tnb T)) i) i))], u)) rfl ?_
      refine x_icmpN_ne 99 rfl rfl (by omega) (by omega) (fun h90 => ?_) (fun h90 => ?_)
      · refine run_ok 1 (c' := (102, [(0, .ref 48), (1, .int (nI w)), (2, .int (nI i + nI 1))], [], u)) rfl ?_
        rw [nI_add i 1]
        refine run_ok 1 (c' := (75, [(0, .ref 48), (1, .int (nI w)), (2, .int (nI (i + 1)))], [], u)) rfl ?_
        refine ih u ?_ hf h8 h2
        rw [show sls T w (lnc T w (evs T w (tne T) V) (tnb T)) (i + 1) = sls T w (lnc T w (evs T w (tne T) V) (tnb T)) i from if_neg h90]
        exact hMu
      · refine run_ok 3 (c' := (96, [(0, .ref 48), (1, .int (nI w)), (2, .int (nI i))], [.int (nI w), .int (nI i), .ref 48], u)) rfl ?_
        refine x_callV [.int (nI i), .int (nI w)] rfl cv_R_sails.1 lk_7_213 cv_R_sails.2.1 cv_R_sails.2.2.1 rfl cv_R_sails.2.2.2.1 rfl rfl (Nat.le_of_ble_eq_true rfl) (by decide) cv_R_sails.2.2.2.2 (m_sails u T (sls T w (lnc T w (evs T w (tne T) V) (tnb T)) i) i hTu hto hMu hVu.1 hi w hw h90 ((hVu.1.2.1 i (by omega)).2.2 h90).2) ?_
        rintro r v ⟨hr, hMv, hfv, h8v, h2v⟩
        rw [hr]
        clear hr r
        refine run_ok 1 (c' := (102, [(0, .ref 48), (1, .int (nI w)), (2, .int (nI i + nI 1))], [], v)) rfl ?_
        rw [nI_add i 1]
        refine run_ok 1 (c' := (75, [(0, .ref 48), (1, .int (nI w)), (2, .int (nI (i + 1)))], [], v)) rfl ?_
        refine ih v ?_ (hf.tr (hfv.sub (by decide))) (h8.tr h8v) (h2v.trans h2)
        rw [show sls T w (lnc T w (evs T w (tne T) V) (tnb T)) (i + 1) = bea T w (sls T w (lnc T w (evs T w (tne T) V) (tnb T)) i) i from if_pos h90]
        exact hMv
  have H2 : ∀ i, i ≤ tnb T → ∀ u : ST, MV T (lnc T w (evs T w (tne T) V) i) u → fr [48, 63, 64, 65, 66, 67] S u → f48 [24, 25] S u → u.2 = S.2 → BX me_R_goesBy 2 none (fun r u => r = none ∧ MV T (wkf T w V) u ∧ WR T (wkf T w V) w (tnb T) 64 S u ∧ fr MW S u ∧ f48 [24, 25] S u ∧ u.2 = S.2) (44, [(0, .ref 48), (1, .int (nI w)), (2, .int (nI i))], [], u) := by
    refine loop_up (P := fun i => ∀ u : ST, MV T (lnc T w (evs T w (tne T) V) i) u → fr [48, 63, 64, 65, 66, 67] S u → f48 [24, 25] S u → u.2 = S.2 → BX me_R_goesBy 2 none (fun r u => r = none ∧ MV T (wkf T w V) u ∧ WR T (wkf T w V) w (tnb T) 64 S u ∧ fr MW S u ∧ f48 [24, 25] S u ∧ u.2 = S.2) (44, [(0, .ref 48), (1, .int (nI w)), (2, .int (nI i))], [], u)) (tnb T) ?_ ?_
    · intro u hMu hf h8 h2
      have hTu : MT T u := hT.stay (hf.sub (by decide)) h8
      obtain ⟨t1, t2, t3, t4, t5, t6, t7, t8, t9, t10, t11⟩ := id hTu
      obtain ⟨m1, m2, m3, m4, m5, m6, m7⟩ := id hMu
      refine run_ok 3 (c' := (49, [(0, .ref 48), (1, .int (nI w)), (2, .int (nI (tnb T)))], [.int (u.1 48 5), .int (nI (tnb T))], u)) rfl ?_
      refine x_top (v' := nI (tnb T)) t9 ?_
      refine x_icmpN_ge 73 rfl rfl (by omega) (by omega) (fun h49 => ?_) (fun hn => absurd (Nat.le_refl _) hn)
      refine run_ok 2 (c' := (75, [(0, .ref 48), (1, .int (nI w)), (2, .int (nI 0))], [], u)) rfl ?_
      exact H3 0 (by omega) u hMu hf h8 h2
    · intro i hi ih u hMu hf h8 h2
      have hTu : MT T u := hT.stay (hf.sub (by decide)) h8
      obtain ⟨t1, t2, t3, t4, t5, t6, t7, t8, t9, t10, t11⟩ := id hTu
      obtain ⟨m1, m2, m3, m4, m5, m6, m7⟩ := id hMu
      have hVu := vk_lnc k1 hto hu1 i (by omega)
      have q1 := (hbt i hi).2.2.1
      refine run_ok 3 (c' := (49, [(0, .ref 48), (1, .int (nI w)), (2, .int (nI i))], [.int (u.1 48 5), .int (nI i)], u)) rfl ?_
      refine x_top (v' := nI (tnb T)) t9 ?_
      refine x_icmpN_ge 73 rfl rfl (by omega) (by omega) (fun hn => absurd hn (show ¬ tnb T ≤ i by omega)) (fun h49 => ?_)
      refine run_ok 3 (c' := (57, [(0, .ref 48), (1, .int (nI w)), (2, .int (nI i))], [.int (nI i), .ref 55], u)) rfl ?_
      refine x_iaN (nI (tla T i)) rfl rfl (by decide) (by omega) (t4 i (by omega)) ?_
      refine run_ok 1 (c' := (59, [(0, .ref 48), (1, .int (nI w)), (2, .int (nI i))], [.int (nI w), .int (nI (tla T i))], u)) rfl ?_
      refine x_icmpN_ne 67 rfl rfl (by omega) (by omega) (fun h59 => ?_) (fun h59 => ?_)
      · refine run_ok 1 (c' := (70, [(0, .ref 48), (1, .int (nI w)), (2, .int (nI i + nI 1))], [], u)) rfl ?_
        rw [nI_add i 1]
        refine run_ok 1 (c' := (44, [(0, .ref 48), (1, .int (nI w)), (2, .int (nI (i + 1)))], [], u)) rfl ?_
        refine ih u ?_ hf h8 h2
        rw [show lnc T w (evs T w (tne T) V) (i + 1) = lnc T w (evs T w (tne T) V) i from if_neg h59]
        exact hMu
      · refine run_ok 2 (c' := (64, [(0, .ref 48), (1, .int (nI w)), (2, .int (nI i))], [.int (nI i), .ref 48], u)) rfl ?_
        refine x_callV [.int (nI i)] rfl cv_R_launches.1 lk_7_210 cv_R_launches.2.1 cv_R_launches.2.2.1 rfl cv_R_launches.2.2.2.1 rfl rfl (Nat.le_of_ble_eq_true rfl) (by decide) cv_R_launches.2.2.2.2 (m_launches u T (lnc T w (evs T w (tne T) V) i) i hTu hto hMu hVu.1 hi) ?_
        rintro r v ⟨hr, hMv, hfv, h2v⟩
        rw [hr]
        clear hr r
        refine run_ok 1 (c' := (70, [(0, .ref 48), (1, .int (nI w)), (2, .int (nI i + nI 1))], [], v)) rfl ?_
        rw [nI_add i 1]
        refine run_ok 1 (c' := (44, [(0, .ref 48), (1, .int (nI w)), (2, .int (nI (i + 1)))], [], v)) rfl ?_
        refine ih v ?_ (hf.tr (hfv.sub (by decide))) (h8.tr (f48.of hfv (by decide))) (h2v.trans h2)
        rw [show lnc T w (evs T w (tne T) V) (i + 1) = lau T (lnc T w (evs T w (tne T) V) i) i from if_pos h59]
        exact hMv
  have H1 : ∀ i, i ≤ tne T → ∀ u : ST, MV T (evs T w i V) u → fr [48, 63, 64, 65, 66, 67] S u → f48 [24, 25] S u → u.2 = S.2 → BX me_R_goesBy 2 none (fun r u => r = none ∧ MV T (wkf T w V) u ∧ WR T (wkf T w V) w (tnb T) 64 S u ∧ fr MW S u ∧ f48 [24, 25] S u ∧ u.2 = S.2) (2, [(0, .ref 48), (1, .int (nI w)), (2, .int (nI i))], [], u) := by
    refine loop_up (P := fun i => ∀ u : ST, MV T (evs T w i V) u → fr [48, 63, 64, 65, 66, 67] S u → f48 [24, 25] S u → u.2 = S.2 → BX me_R_goesBy 2 none (fun r u => r = none ∧ MV T (wkf T w V) u ∧ WR T (wkf T w V) w (tnb T) 64 S u ∧ fr MW S u ∧ f48 [24, 25] S u ∧ u.2 = S.2) (2, [(0, .ref 48), (1, .int (nI w)), (2, .int (nI i))], [], u)) (tne T) ?_ ?_
    · intro u hMu hf h8 h2
      have hTu : MT T u := hT.stay (hf.sub (by decide)) h8
      obtain ⟨t1, t2, t3, t4, t5, t6, t7, t8, t9, t10, t11⟩ := id hTu
      obtain ⟨m1, m2, m3, m4, m5, m6, m7⟩ := id hMu
      refine run_ok 3 (c' := (7, [(0, .ref 48), (1, .int (nI w)), (2, .int (nI (tne T)))], [.int (u.1 48 14), .int (nI (tne T))], u)) rfl ?_
      refine x_top (v' := nI (tne T)) t10 ?_
      refine x_icmpN_ge 42 rfl rfl (by omega) (by omega) (fun h7 => ?_) (fun hn => absurd (Nat.le_refl _) hn)
      refine run_ok 2 (c' := (44, [(0, .ref 48), (1, .int (nI w)), (2, .int (nI 0))], [], u)) rfl ?_
      exact H2 0 (by omega) u hMu hf h8 h2
    · intro i hi ih u hMu hf h8 h2
      have hTu : MT T u := hT.stay (hf.sub (by decide)) h8
      obtain ⟨t1, t2, t3, t4, t5, t6, t7, t8, t9, t10, t11⟩ := id hTu
      obtain ⟨m1, m2, m3, m4, m5, m6, m7⟩ := id hMu
      have hVu := vk_evs (w := w) hV hto i (by omega)
      have q1 := het i hi
      refine run_ok 3 (c' := (7, [(0, .ref 48), (1, .int (nI w)), (2, .int (nI i))], [.int (u.1 48 14), .int (nI i)], u)) rfl ?_
      refine x_top (v' := nI (tne T)) t10 ?_
      refine x_icmpN_ge 42 rfl rfl (by omega) (by omega) (fun hn => absurd hn (show ¬ tne T ≤ i by omega)) (fun h7 => ?_)
      refine run_ok 3 (c' := (15, [(0, .ref 48), (1, .int (nI w)), (2, .int (nI i))], [.int (nI i), .ref 61], u)) rfl ?_
      refine x_iaN (nI (tew T i)) rfl rfl (by decide) (by omega) (t7 i (by omega)) ?_
      refine run_ok 1 (c' := (17, [(0, .ref 48), (1, .int (nI w)), (2, .int (nI i))], [.int (nI w), .int (nI (tew T i))], u)) rfl ?_
      refine x_icmpN_ne 36 rfl rfl (by omega) (by omega) (fun h17 => ?_) (fun h17 => ?_)
      · refine run_ok 1 (c' := (39, [(0, .ref 48), (1, .int (nI w)), (2, .int (nI i + nI 1))], [], u)) rfl ?_
        rw [nI_add i 1]
        refine run_ok 1 (c' := (2, [(0, .ref 48), (1, .int (nI w)), (2, .int (nI (i + 1)))], [], u)) rfl ?_
        refine ih u ?_ hf h8 h2
        rw [show evs T w (i + 1) V = evs T w i V from if_neg (fun z => by first | exact h17 z.1 | (rw [h28] at z; exact absurd z.2 (by decide)))]
        exact hMu
      · refine run_ok 2 (c' := (24, [(0, .ref 48), (1, .int (nI w)), (2, .int (nI i))], [.int (u.1 48 18)], u)) rfl ?_
        refine x_top (v' := nI (tlo T)) t11 ?_
        refine run_ok 1 (c' := (25, [(0, .ref 48), (1, .int (nI w)), (2, .int (nI i))], [.int (nI i), .int (nI (tlo T))], u)) rfl ?_
        refine x_callS [.int (nI (tlo T)), .int (nI i)] rfl cs_R_isIn.1 lk_7_204 cs_R_isIn.2.1 rfl rfl (Nat.le_of_ble_eq_true rfl) (by decide) cs_R_isIn.2.2 (m_isIn u (tlo T) i (by omega) (by omega)) ?_
        rintro r x ⟨hr, hu⟩
        rw [hr, hu]
        clear hr hu r x
        refine x_ifB_ne 36 rfl rfl (fun h28 => ?_) (fun h28 => ?_)
        · refine run_ok 1 (c' := (39, [(0, .ref 48), (1, .int (nI w)), (2, .int (nI i + nI 1))], [], u)) rfl ?_
          rw [nI_add i 1]
          refine run_ok 1 (c' := (2, [(0, .ref 48), (1, .int (nI w)), (2, .int (nI (i + 1)))], [], u)) rfl ?_
          refine ih u ?_ hf h8 h2
          rw [show evs T w (i + 1) V = evs T w i V from if_neg (fun z => by first | exact h17 z.1 | (rw [h28] at z; exact absurd z.2 (by decide)))]
          exact hMu
        · refine run_ok 2 (c' := (33, [(0, .ref 48), (1, .int (nI w)), (2, .int (nI i))], [.int (nI i), .ref 48], u)) rfl ?_
          refine x_callV [.int (nI i)] rfl cv_R_befalls.1 lk_7_207 cv_R_befalls.2.1 cv_R_befalls.2.2.1 rfl cv_R_befalls.2.2.2.1 rfl rfl (Nat.le_of_ble_eq_true rfl) (by decide) cv_R_befalls.2.2.2.2 (m_befalls u T (evs T w i V) i hTu hto hMu hVu.1 hi) ?_
          rintro r v ⟨hr, hMv, hfv, h2v⟩
          rw [hr]
          clear hr r
          refine run_ok 1 (c' := (39, [(0, .ref 48), (1, .int (nI w)), (2, .int (nI i + nI 1))], [], v)) rfl ?_
          rw [nI_add i 1]
          refine run_ok 1 (c' := (2, [(0, .ref 48), (1, .int (nI w)), (2, .int (nI (i + 1)))], [], v)) rfl ?_
          refine ih v ?_ (hf.tr (hfv.sub (by decide))) (h8.tr (f48.of hfv (by decide))) (h2v.trans h2)
          rw [show evs T w (i + 1) V = evt T (evs T w i V) i from if_pos ⟨h17, by simpa using h28⟩]
          exact hMv
  refine run_ok 2 (c' := (2, [(0, .ref 48), (1, .int (nI w)), (2, .int (nI 0))], [], S)) rfl ?_
  exact H1 0 (Nat.zero_le _) S hM fr.rf f48.rf rfl


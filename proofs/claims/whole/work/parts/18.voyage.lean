/-! the voyage of the class: fill, begin, a week, a run -/
set_option maxHeartbeats 1000000 in
theorem c_filli (S : ST) (k n : Nat) (fl : List (Option Nat)) (v : Int32) (hk : shp[k]? = some (0, n, fl)) (hn : n < 2147483648) : EX me_J_filli 0 [.ref k, .int v] S (fun r u => r = none ∧ (∀ j, j < n → u.1 k j = v) ∧ fr [k] S u ∧ u.2 = S.2) := by
  refine EX.of mok_J_filli (Nat.le_of_ble_eq_true rfl) ?_
  have H : ∀ i, i ≤ n → ∀ u : ST, (∀ j, j < i → u.1 k j = v) → fr [k] S u → u.2 = S.2 → BX me_J_filli 0 none (fun r u => r = none ∧ (∀ j, j < n → u.1 k j = v) ∧ fr [k] S u ∧ u.2 = S.2) (5, [(0, .ref k), (1, .int v), (2, .int (nI i)), (3, .int (nI n))], [], u) := by
    refine loop_up (P := fun i => ∀ u : ST, (∀ j, j < i → u.1 k j = v) → fr [k] S u → u.2 = S.2 → BX me_J_filli 0 none (fun r u => r = none ∧ (∀ j, j < n → u.1 k j = v) ∧ fr [k] S u ∧ u.2 = S.2) (5, [(0, .ref k), (1, .int v), (2, .int (nI i)), (3, .int (nI n))], [], u)) n ?_ ?_
    · intro u h1 hf h2
      refine run_ok 2 (c' := (7, [(0, .ref k), (1, .int v), (2, .int (nI n)), (3, .int (nI n))], [.int (nI n), .int (nI n)], u)) rfl ?_
      refine x_icmpN_ge 20 rfl rfl (by omega) (by omega) (fun _ => ?_) (fun hn => absurd (Nat.le_refl _) hn)
      exact x_ret (r := none) rfl rfl trivial ⟨rfl, h1, hf, h2⟩ rfl
    · intro i hi ih u h1 hf h2
      refine run_ok 2 (c' := (7, [(0, .ref k), (1, .int v), (2, .int (nI i)), (3, .int (nI n))], [.int (nI n), .int (nI i)], u)) rfl ?_
      refine x_icmpN_ge 20 rfl rfl (by omega) (by omega) (fun hn => absurd hn (by omega)) (fun _ => ?_)
      refine run_ok 3 (c' := (13, [(0, .ref k), (1, .int v), (2, .int (nI i)), (3, .int (nI n))], [.int v, .int (nI i), .ref k], u)) rfl ?_
      refine x_isN rfl hk hn hi ?_
      refine run_ok 1 (c' := (17, [(0, .ref k), (1, .int v), (2, .int (nI i + nI 1)), (3, .int (nI n))], [], pt u k i v)) rfl ?_
      rw [nI_add i 1]
      refine run_ok 1 (c' := (5, [(0, .ref k), (1, .int v), (2, .int (nI (i + 1))), (3, .int (nI n))], [], pt u k i v)) rfl ?_
      refine ih _ (fun j hj => ?_) (hf.pt List.mem_cons_self) h2
      rw [pt_at]
      unfold upd
      split
      · rfl
      · exact h1 j (by omega)
  refine run_ok 3 (c' := (3, [(0, .ref k), (1, .int v), (2, .int (nI 0))], [.ref k], S)) rfl ?_
  refine x_alen0 rfl hk ?_
  refine run_ok 1 (c' := (5, [(0, .ref k), (1, .int v), (2, .int (nI 0)), (3, .int (nI n))], [], S)) rfl ?_
  exact H 0 (Nat.zero_le _) S (fun j hj => absurd hj (Nat.not_lt_zero _)) fr.rf rfl
theorem CR_stm {t : Nat} {T : TD} {V : VS} {ls : Nat → Nat} {u v : ST} (hC : CR t T V ls u) (h28 : rh v 28 (tnb T) (vho (stm T V))) (hf : fr [28] u v) (h2 : v.2 = u.2) : CR t T (stm T V) ls v := by
  obtain ⟨g24, g25, g26, g27, g28, g29, gsr, g9, g10, g11, gtl⟩ := hC
  have e := fun (k : Nat) (hk : k ∉ [28]) => hf k hk
  refine ⟨g24.keep hf (by decide), g25.keep hf (by decide), fun k hk => by rw [e 26 (by decide)]; exact g26 k hk, g27.keep hf (by decide), h28, g29.keep hf (by decide), fun k hk h1 => by rw [e 30 (by decide), e 31 (by decide)]; exact gsr k hk h1, by rw [e 23 (by decide)]; exact g9, by rw [e 23 (by decide)]; exact g10, by rw [e 23 (by decide)]; exact g11, by rw [h2]; exact gtl⟩
set_option maxHeartbeats 2000000 in
theorem c_begin5 (S : ST) (T : TD) (hT : TR 5 T S) (hto : tok T) : EX me_V_begin 1 [.ref 23, .ref 5] S (fun r u => r = none ∧ CR 5 T (vz T) (fun _ => 0) u ∧ fr VL S u ∧ u.2.1 = S.2.1) := by
  refine EX.of mok_V_begin (Nat.le_of_ble_eq_true rfl) ?_
  obtain ⟨n8, n9, hbt, het, hht, hlo⟩ := id hto
  obtain ⟨t1, t2, t3, t4, t5, t6, t7, t8, t9, t10, t11⟩ := id hT
  refine run_ok 10 (c' := (17, [(0, .ref 23), (1, .ref 5)], [.int (nI 64), .int (nI 0), .ref 24, .int (nI 0), .ref 6], (ptt S 5))) rfl ?_
  refine x_copyN rfl lk_5_61 rfl rfl (by decide) (by decide) (by omega) (by omega) (Nat.le_of_ble_eq_true rfl) (by decide) ?_
  refine run_ok 7 (c' := (32, [(0, .ref 23), (1, .ref 5)], [.int (nI 8), .int (nI 0), .ref 28, .int (nI 0), .ref 10], (rwr (ptt S 5) 24 (va_cpy (S.1 6) (S.1 24) 0 0 64)))) rfl ?_
  refine x_copyN rfl lk_5_61 rfl rfl (by decide) (by decide) (by omega) (by omega) (Nat.le_of_ble_eq_true rfl) (by decide) ?_
  refine run_ok 3 (c' := (40, [(0, .ref 23), (1, .ref 5)], [.int (nI 0), .ref 25], (rwr (rwr (ptt S 5) 24 (va_cpy (S.1 6) (S.1 24) 0 0 64)) 28 (va_cpy (S.1 10) (S.1 28) 0 0 8)))) rfl ?_
  refine x_callS [.ref 25, .int (nI 0)] rfl cs_J_filli.1 lk_5_68 cs_J_filli.2.1 rfl rfl (Nat.le_of_ble_eq_true rfl) (by decide) cs_J_filli.2.2 (c_filli (rwr (rwr (ptt S 5) 24 (va_cpy (S.1 6) (S.1 24) 0 0 64)) 28 (va_cpy (S.1 10) (S.1 28) 0 0 8)) 25 8 [] (nI 0) rfl (by decide)) ?_
  rintro r u1 ⟨hr, a1, f1, b1⟩
  rw [hr]
  clear hr r
  refine run_ok 3 (c' := (48, [(0, .ref 23), (1, .ref 5)], [.int (-1), .ref 26], u1)) rfl ?_
  refine x_callS [.ref 26, .int (-1)] rfl cs_J_filli.1 lk_5_68 cs_J_filli.2.1 rfl rfl (Nat.le_of_ble_eq_true rfl) (by decide) cs_J_filli.2.2 (c_filli u1 26 8 [] ((-1)) rfl (by decide)) ?_
  rintro r u2 ⟨hr, a2, f2, b2'⟩
  rw [hr]
  clear hr r
  refine run_ok 3 (c' := (56, [(0, .ref 23), (1, .ref 5)], [.int (nI 0), .ref 27], u2)) rfl ?_
  refine x_callS [.ref 27, .int (nI 0)] rfl cs_J_filli.1 lk_5_68 cs_J_filli.2.1 rfl rfl (Nat.le_of_ble_eq_true rfl) (by decide) cs_J_filli.2.2 (c_filli u2 27 8 [] (nI 0) rfl (by decide)) ?_
  rintro r u3 ⟨hr, a3, f3, b3⟩
  rw [hr]
  clear hr r
  refine run_ok 3 (c' := (64, [(0, .ref 23), (1, .ref 5)], [.int (nI 0), .ref 29], u3)) rfl ?_
  refine x_callS [.ref 29, .int (nI 0)] rfl cs_J_filli.1 lk_5_68 cs_J_filli.2.1 rfl rfl (Nat.le_of_ble_eq_true rfl) (by decide) cs_J_filli.2.2 (c_filli u3 29 8 [] (nI 0) rfl (by decide)) ?_
  rintro r u4 ⟨hr, a4, f4, b4⟩
  rw [hr]
  clear hr r
  have tb : u4.1 5 6 = nI (tnb T) := by rw [f4 5 (by decide), f3 5 (by decide), f2 5 (by decide), f1 5 (by decide)]; exact t9
  refine run_ok 3 (c' := (72, [(0, .ref 23), (1, .ref 5)], [.int (u4.1 5 6), .ref 23], u4)) rfl ?_
  refine x_top (v' := nI (tnb T)) tb ?_
  refine run_ok 7 (c' := (85, [(0, .ref 23), (1, .ref 5)], [], (pt (pt (pt u4 23 9 (nI (tnb T))) 23 10 (-1)) 23 11 (-1)))) rfl ?_
  refine x_ret (r := none) rfl rfl trivial ?_ rfl
  have hf : fr VL S u4 := by
    refine fr.tr ?_ (f4.sub (by decide))
    refine fr.tr ?_ (f3.sub (by decide))
    refine fr.tr ?_ (f2.sub (by decide))
    refine fr.tr ?_ (f1.sub (by decide))
    exact ((fr.rf.ptt).rwr (by decide)).rwr (by decide)
  have e24 : u4.1 24 = va_cpy (S.1 6) (S.1 24) 0 0 64 := by rw [f4 24 (by decide), f3 24 (by decide), f2 24 (by decide), f1 24 (by decide)]; rfl
  have e28 : u4.1 28 = va_cpy (S.1 10) (S.1 28) 0 0 8 := by rw [f4 28 (by decide), f3 28 (by decide), f2 28 (by decide), f1 28 (by decide)]; rfl
  have e25 : u4.1 25 = u1.1 25 := by rw [f4 25 (by decide), f3 25 (by decide), f2 25 (by decide)]
  have e26 : u4.1 26 = u2.1 26 := by rw [f4 26 (by decide), f3 26 (by decide)]
  have e27 : u4.1 27 = u3.1 27 := by rw [f4 27 (by decide)]
  have el : lft T (vz T) = tnb T := cnt_all (fun k _ => rfl)
  refine ⟨rfl, ⟨?_, ?_, ?_, ?_, ?_, ?_, ?_, ?_, rfl, rfl, ?_⟩, ((hf.pt (by decide)).pt (by decide)).pt (by decide), ?_⟩
  · intro j hj
    show u4.1 24 j = _
    rw [e24, pk_cpy_in (Nat.zero_le _) (by omega)]
    rw [Nat.zero_add, Nat.sub_zero]; exact t1 _ (by omega)
  · intro j hj
    show u4.1 25 j = _
    rw [e25]; exact a1 j hj
  · intro j hj
    show u4.1 26 j = _
    rw [e26]; exact a2 j hj
  · intro j hj
    show u4.1 27 j = _
    rw [e27]; exact a3 j (by omega)
  · intro j hj
    show u4.1 28 j = _
    rw [e28, pk_cpy_in (Nat.zero_le _) (by omega)]
    rw [Nat.zero_add, Nat.sub_zero]; exact t5 _ (by omega)
  · intro j hj
    show u4.1 29 j = _
    exact a4 j (by omega)
  · intro j hj h1
    cases h1
  · show nI (tnb T) = nI (lft T (vz T))
    rw [el]
  · show u4.2.2 = 5
    rw [b4, b3, b2', b1]; rfl
  · show u4.2.1 = S.2.1
    rw [b4, b3, b2', b1]; rfl

set_option maxHeartbeats 2000000 in
theorem c_begin14 (S : ST) (T : TD) (hT : TR 14 T S) (hto : tok T) : EX me_V_begin 1 [.ref 23, .ref 14] S (fun r u => r = none ∧ CR 14 T (vz T) (fun _ => 0) u ∧ fr VL S u ∧ u.2.1 = S.2.1) := by
  refine EX.of mok_V_begin (Nat.le_of_ble_eq_true rfl) ?_
  obtain ⟨n8, n9, hbt, het, hht, hlo⟩ := id hto
  obtain ⟨t1, t2, t3, t4, t5, t6, t7, t8, t9, t10, t11⟩ := id hT
  refine run_ok 10 (c' := (17, [(0, .ref 23), (1, .ref 14)], [.int (nI 64), .int (nI 0), .ref 24, .int (nI 0), .ref 15], (ptt S 14))) rfl ?_
  refine x_copyN rfl lk_5_61 rfl rfl (by decide) (by decide) (by omega) (by omega) (Nat.le_of_ble_eq_true rfl) (by decide) ?_
  refine run_ok 7 (c' := (32, [(0, .ref 23), (1, .ref 14)], [.int (nI 8), .int (nI 0), .ref 28, .int (nI 0), .ref 19], (rwr (ptt S 14) 24 (va_cpy (S.1 15) (S.1 24) 0 0 64)))) rfl ?_
  refine x_copyN rfl lk_5_61 rfl rfl (by decide) (by decide) (by omega) (by omega) (Nat.le_of_ble_eq_true rfl) (by decide) ?_
  refine run_ok 3 (c' := (40, [(0, .ref 23), (1, .ref 14)], [.int (nI 0), .ref 25], (rwr (rwr (ptt S 14) 24 (va_cpy (S.1 15) (S.1 24) 0 0 64)) 28 (va_cpy (S.1 19) (S.1 28) 0 0 8)))) rfl ?_
  refine x_callS [.ref 25, .int (nI 0)] rfl cs_J_filli.1 lk_5_68 cs_J_filli.2.1 rfl rfl (Nat.le_of_ble_eq_true rfl) (by decide) cs_J_filli.2.2 (c_filli (rwr (rwr (ptt S 14) 24 (va_cpy (S.1 15) (S.1 24) 0 0 64)) 28 (va_cpy (S.1 19) (S.1 28) 0 0 8)) 25 8 [] (nI 0) rfl (by decide)) ?_
  rintro r u1 ⟨hr, a1, f1, b1⟩
  rw [hr]
  clear hr r
  refine run_ok 3 (c' := (48, [(0, .ref 23), (1, .ref 14)], [.int (-1), .ref 26], u1)) rfl ?_
  refine x_callS [.ref 26, .int (-1)] rfl cs_J_filli.1 lk_5_68 cs_J_filli.2.1 rfl rfl (Nat.le_of_ble_eq_true rfl) (by decide) cs_J_filli.2.2 (c_filli u1 26 8 [] ((-1)) rfl (by decide)) ?_
  rintro r u2 ⟨hr, a2, f2, b2'⟩
  rw [hr]
  clear hr r
  refine run_ok 3 (c' := (56, [(0, .ref 23), (1, .ref 14)], [.int (nI 0), .ref 27], u2)) rfl ?_
  refine x_callS [.ref 27, .int (nI 0)] rfl cs_J_filli.1 lk_5_68 cs_J_filli.2.1 rfl rfl (Nat.le_of_ble_eq_true rfl) (by decide) cs_J_filli.2.2 (c_filli u2 27 8 [] (nI 0) rfl (by decide)) ?_
  rintro r u3 ⟨hr, a3, f3, b3⟩
  rw [hr]
  clear hr r
  refine run_ok 3 (c' := (64, [(0, .ref 23), (1, .ref 14)], [.int (nI 0), .ref 29], u3)) rfl ?_
  refine x_callS [.ref 29, .int (nI 0)] rfl cs_J_filli.1 lk_5_68 cs_J_filli.2.1 rfl rfl (Nat.le_of_ble_eq_true rfl) (by decide) cs_J_filli.2.2 (c_filli u3 29 8 [] (nI 0) rfl (by decide)) ?_
  rintro r u4 ⟨hr, a4, f4, b4⟩
  rw [hr]
  clear hr r
  have tb : u4.1 14 6 = nI (tnb T) := by rw [f4 14 (by decide), f3 14 (by decide), f2 14 (by decide), f1 14 (by decide)]; exact t9
  refine run_ok 3 (c' := (72, [(0, .ref 23), (1, .ref 14)], [.int (u4.1 14 6), .ref 23], u4)) rfl ?_
  refine x_top (v' := nI (tnb T)) tb ?_
  refine run_ok 7 (c' := (85, [(0, .ref 23), (1, .ref 14)], [], (pt (pt (pt u4 23 9 (nI (tnb T))) 23 10 (-1)) 23 11 (-1)))) rfl ?_
  refine x_ret (r := none) rfl rfl trivial ?_ rfl
  have hf : fr VL S u4 := by
    refine fr.tr ?_ (f4.sub (by decide))
    refine fr.tr ?_ (f3.sub (by decide))
    refine fr.tr ?_ (f2.sub (by decide))
    refine fr.tr ?_ (f1.sub (by decide))
    exact ((fr.rf.ptt).rwr (by decide)).rwr (by decide)
  have e24 : u4.1 24 = va_cpy (S.1 15) (S.1 24) 0 0 64 := by rw [f4 24 (by decide), f3 24 (by decide), f2 24 (by decide), f1 24 (by decide)]; rfl
  have e28 : u4.1 28 = va_cpy (S.1 19) (S.1 28) 0 0 8 := by rw [f4 28 (by decide), f3 28 (by decide), f2 28 (by decide), f1 28 (by decide)]; rfl
  have e25 : u4.1 25 = u1.1 25 := by rw [f4 25 (by decide), f3 25 (by decide), f2 25 (by decide)]
  have e26 : u4.1 26 = u2.1 26 := by rw [f4 26 (by decide), f3 26 (by decide)]
  have e27 : u4.1 27 = u3.1 27 := by rw [f4 27 (by decide)]
  have el : lft T (vz T) = tnb T := cnt_all (fun k _ => rfl)
  refine ⟨rfl, ⟨?_, ?_, ?_, ?_, ?_, ?_, ?_, ?_, rfl, rfl, ?_⟩, ((hf.pt (by decide)).pt (by decide)).pt (by decide), ?_⟩
  · intro j hj
    show u4.1 24 j = _
    rw [e24, pk_cpy_in (Nat.zero_le _) (by omega)]
    rw [Nat.zero_add, Nat.sub_zero]; exact t1 _ (by omega)
  · intro j hj
    show u4.1 25 j = _
    rw [e25]; exact a1 j hj
  · intro j hj
    show u4.1 26 j = _
    rw [e26]; exact a2 j hj
  · intro j hj
    show u4.1 27 j = _
    rw [e27]; exact a3 j (by omega)
  · intro j hj
    show u4.1 28 j = _
    rw [e28, pk_cpy_in (Nat.zero_le _) (by omega)]
    rw [Nat.zero_add, Nat.sub_zero]; exact t5 _ (by omega)
  · intro j hj
    show u4.1 29 j = _
    exact a4 j (by omega)
  · intro j hj h1
    cases h1
  · show nI (tnb T) = nI (lft T (vz T))
    rw [el]
  · show u4.2.2 = 14
    rw [b4, b3, b2', b1]; rfl
  · show u4.2.1 = S.2.1
    rw [b4, b3, b2', b1]; rfl

set_option maxHeartbeats 2000000 in
theorem c_sail5 (S : ST) (T : TD) (V : VS) (ls : Nat → Nat) (w : Nat) (hT : TR 5 T S) (hto : tok T) (hC : CR 5 T V ls S) (hV : vk T V) (hul : ul T w V) (hw : w < 24) : EX me_V_sail 3 [.ref 23, .int (nI w)] S (fun r u => r = none ∧ CR 5 T (wkf T w V) (lsk T w (lnc T w (evs T w (tne T) V) (tnb T)) ls (tnb T)) u ∧ fr VL S u ∧ u.2 = S.2) := by
  refine EX.of mok_V_sail (Nat.le_of_ble_eq_true rfl) ?_
  obtain ⟨n8, n9, hbt, het, hht, hlo⟩ := id hto
  obtain ⟨k1, k2, k3⟩ := vk_evs (w := w) hV hto (tne T) (Nat.le_refl _)
  have hu1 : ul T w (evs T w (tne T) V) := fun k hk hl => by rw [k2, k3]; exact hul k hk hl
  obtain ⟨l1, l2, l3⟩ := vk_lnc k1 hto hu1 (tnb T) (Nat.le_refl _)
  have H3 : ∀ i, i ≤ tnb T → ∀ u : ST, CR 5 T (sls T w (lnc T w (evs T w (tne T) V) (tnb T)) i) (lsk T w (lnc T w (evs T w (tne T) V) (tnb T)) ls i) u → fr VL S u → u.2 = S.2 → BX me_V_sail 3 none (fun r u => r = none ∧ CR 5 T (wkf T w V) (lsk T w (lnc T w (evs T w (tne T) V) (tnb T)) ls (tnb T)) u ∧ fr VL S u ∧ u.2 = S.2) (111, [(0, .ref 23), (1, .int (nI w)), (2, .int (nI i))], [], u) := by
    refine loop_up (P := fun i => ∀ u : ST, CR 5 T (sls T w (lnc T w (evs T w (tne T) V) (tnb T)) i) (lsk T w (lnc T w (evs T w (tne T) V) (tnb T)) ls i) u → fr VL S u → u.2 = S.2 → BX me_V_sail 3 none (fun r u => r = none ∧ CR 5 T (wkf T w V) (lsk T w (lnc T w (evs T w (tne T) V) (tnb T)) ls (tnb T)) u ∧ fr VL S u ∧ u.2 = S.2) (111, [(0, .ref 23), (1, .int (nI w)), (2, .int (nI i))], [], u)) (tnb T) ?_ ?_
    · intro u hCu hf h2
      have hTu : TR 5 T u := hT.keep hf (by decide)
      obtain ⟨t1, t2, t3, t4, t5, t6, t7, t8, t9, t10, t11⟩ := id hTu
      obtain ⟨h24, h25, h26, h27, h28, h29, hsr, g9, g10, g11, htl⟩ := id hCu
      refine run_ok 2 (c' := (113, [(0, .ref 23), (1, .int (nI w)), (2, .int (nI (tnb T)))], [.ref 23, .int (nI (tnb T))], u)) rfl ?_
      refine x_gett (t := 5) rfl rfl htl ?_
      refine run_ok 1 (c' := (119, [(0, .ref 23), (1, .int (nI w)), (2, .int (nI (tnb T)))], [.int (u.1 5 6), .int (nI (tnb T))], u)) rfl ?_
      refine x_top (v' := nI (tnb T)) t9 ?_
      refine x_icmpN_ge 144 rfl rfl (by omega) (by omega) (fun h119 => ?_) (fun hn => absurd (Nat.le_refl _) hn)
      exact x_ret (r := none) rfl rfl trivial ⟨rfl, hCu, hf, h2⟩ rfl
    · intro i hi ih u hCu hf h2
      have hTu : TR 5 T u := hT.keep hf (by decide)
      obtain ⟨t1, t2, t3, t4, t5, t6, t7, t8, t9, t10, t11⟩ := id hTu
      obtain ⟨h24, h25, h26, h27, h28, h29, hsr, g9, g10, g11, htl⟩ := id hCu
      have hVu := vk_sls (w := w) l1 hto hw i (by omega)
      have q1 := (hVu.1.2.1 i (by omega)).1
      refine run_ok 2 (c' := (113, [(0, .ref 23), (1, .int (nI w)), (2, .int (nI i))], [.ref 23, .int (nI i)], u)) rfl ?_
      refine x_gett (t := 5) rfl rfl htl ?_
      refine run_ok 1 (c' := (119, [(0, .ref 23), (1, .int (nI w)), (2, .int (nI i))], [.int (u.1 5 6), .int (nI i)], u)) rfl ?_
      refine x_top (v' := nI (tnb T)) t9 ?_
      refine x_icmpN_ge 144 rfl rfl (by omega) (by omega) (fun hn => absurd hn (show ¬ tnb T ≤ i by omega)) (fun h119 => ?_)
      refine run_ok 3 (c' := (127, [(0, .ref 23), (1, .int (nI w)), (2, .int (nI i))], [.int (nI i), .ref 25], u)) rfl ?_
      refine x_iaN (nI (vis (sls T w (lnc T w (evs T w (tne T) V) (tnb T)) i) i)) rfl rfl (by decide) (by omega) (h25 i (by omega)) ?_
      refine run_ok 1 (c' := (129, [(0, .ref 23), (1, .int (nI w)), (2, .int (nI i))], [.int (nI 1), .int (nI (vis (sls T w (lnc T w (evs T w (tne T) V) (tnb T)) i) i))], u)) rfl ?_
      refine x_icmpN_ne 138 rfl rfl (by omega) (by omega) (fun h129 => ?_) (fun h129 => ?_)
      · refine run_ok 1 (c' := (141, [(0, .ref 23), (1, .int (nI w)), (2, .int (nI i + nI 1))], [], u)) rfl ?_
        rw [nI_add i 1]
        refine run_ok 1 (c' := (111, [(0, .ref 23), (1, .int (nI w)), (2, .int (nI (i + 1)))], [], u)) rfl ?_
        refine ih u ?_ hf h2
        have es : sls T w (lnc T w (evs T w (tne T) V) (tnb T)) (i + 1) = sls T w (lnc T w (evs T w (tne T) V) (tnb T)) i := if_neg h129
        rw [show lsk T w (lnc T w (evs T w (tne T) V) (tnb T)) ls (i + 1) = (if vis (sls T w (lnc T w (evs T w (tne T) V) (tnb T)) (i + 1)) i = 1 then upn (lsk T w (lnc T w (evs T w (tne T) V) (tnb T)) ls i) i (lsk T w (lnc T w (evs T w (tne T) V) (tnb T)) ls i i + 1) else lsk T w (lnc T w (evs T w (tne T) V) (tnb T)) ls i) from rfl, es, if_neg h129]
        exact hCu
      · refine run_ok 3 (c' := (135, [(0, .ref 23), (1, .int (nI w)), (2, .int (nI i))], [.int (nI w), .int (nI i), .ref 23], u)) rfl ?_
        refine x_callV [.int (nI i), .int (nI w)] rfl cv_V_bear.1 lk_5_103 cv_V_bear.2.1 cv_V_bear.2.2.1 rfl cv_V_bear.2.2.2.1 rfl rfl (Nat.le_of_ble_eq_true rfl) (by decide) cv_V_bear.2.2.2.2 (c_bear5 u T (sls T w (lnc T w (evs T w (tne T) V) (tnb T)) i) (lsk T w (lnc T w (evs T w (tne T) V) (tnb T)) ls i) i w hTu hto hCu hVu.1 hi h129 hw) ?_
        rintro r v ⟨hr, hCv, hfv, h2v⟩
        rw [hr]
        clear hr r
        refine run_ok 1 (c' := (141, [(0, .ref 23), (1, .int (nI w)), (2, .int (nI i + nI 1))], [], v)) rfl ?_
        rw [nI_add i 1]
        refine run_ok 1 (c' := (111, [(0, .ref 23), (1, .int (nI w)), (2, .int (nI (i + 1)))], [], v)) rfl ?_
        refine ih v ?_ (hf.tr hfv) (h2v.trans h2)
        have es : sls T w (lnc T w (evs T w (tne T) V) (tnb T)) (i + 1) = bea T w (sls T w (lnc T w (evs T w (tne T) V) (tnb T)) i) i := if_pos h129
        rw [show lsk T w (lnc T w (evs T w (tne T) V) (tnb T)) ls (i + 1) = (if vis (sls T w (lnc T w (evs T w (tne T) V) (tnb T)) (i + 1)) i = 1 then upn (lsk T w (lnc T w (evs T w (tne T) V) (tnb T)) ls i) i (lsk T w (lnc T w (evs T w (tne T) V) (tnb T)) ls i i + 1) else lsk T w (lnc T w (evs T w (tne T) V) (tnb T)) ls i) from rfl, es]
        exact hCv
  have H2 : ∀ i, i ≤ tnb T → ∀ u : ST, CR 5 T (lnc T w (evs T w (tne T) V) i) (ls) u → fr VL S u → u.2 = S.2 → BX me_V_sail 3 none (fun r u => r = none ∧ CR 5 T (wkf T w V) (lsk T w (lnc T w (evs T w (tne T) V) (tnb T)) ls (tnb T)) u ∧ fr VL S u ∧ u.2 = S.2) (74, [(0, .ref 23), (1, .int (nI w)), (2, .int (nI i))], [], u) := by
    refine loop_up (P := fun i => ∀ u : ST, CR 5 T (lnc T w (evs T w (tne T) V) i) (ls) u → fr VL S u → u.2 = S.2 → BX me_V_sail 3 none (fun r u => r = none ∧ CR 5 T (wkf T w V) (lsk T w (lnc T w (evs T w (tne T) V) (tnb T)) ls (tnb T)) u ∧ fr VL S u ∧ u.2 = S.2) (74, [(0, .ref 23), (1, .int (nI w)), (2, .int (nI i))], [], u)) (tnb T) ?_ ?_
    · intro u hCu hf h2
      have hTu : TR 5 T u := hT.keep hf (by decide)
      obtain ⟨t1, t2, t3, t4, t5, t6, t7, t8, t9, t10, t11⟩ := id hTu
      obtain ⟨h24, h25, h26, h27, h28, h29, hsr, g9, g10, g11, htl⟩ := id hCu
      refine run_ok 2 (c' := (76, [(0, .ref 23), (1, .int (nI w)), (2, .int (nI (tnb T)))], [.ref 23, .int (nI (tnb T))], u)) rfl ?_
      refine x_gett (t := 5) rfl rfl htl ?_
      refine run_ok 1 (c' := (82, [(0, .ref 23), (1, .int (nI w)), (2, .int (nI (tnb T)))], [.int (u.1 5 6), .int (nI (tnb T))], u)) rfl ?_
      refine x_top (v' := nI (tnb T)) t9 ?_
      refine x_icmpN_ge 109 rfl rfl (by omega) (by omega) (fun h82 => ?_) (fun hn => absurd (Nat.le_refl _) hn)
      refine run_ok 2 (c' := (111, [(0, .ref 23), (1, .int (nI w)), (2, .int (nI 0))], [], u)) rfl ?_
      exact H3 0 (Nat.zero_le _) u hCu hf h2
    · intro i hi ih u hCu hf h2
      have hTu : TR 5 T u := hT.keep hf (by decide)
      obtain ⟨t1, t2, t3, t4, t5, t6, t7, t8, t9, t10, t11⟩ := id hTu
      obtain ⟨h24, h25, h26, h27, h28, h29, hsr, g9, g10, g11, htl⟩ := id hCu
      have hVu := vk_lnc k1 hto hu1 i (by omega)
      have q1 := (hbt i hi).2.2.1
      refine run_ok 2 (c' := (76, [(0, .ref 23), (1, .int (nI w)), (2, .int (nI i))], [.ref 23, .int (nI i)], u)) rfl ?_
      refine x_gett (t := 5) rfl rfl htl ?_
      refine run_ok 1 (c' := (82, [(0, .ref 23), (1, .int (nI w)), (2, .int (nI i))], [.int (u.1 5 6), .int (nI i)], u)) rfl ?_
      refine x_top (v' := nI (tnb T)) t9 ?_
      refine x_icmpN_ge 109 rfl rfl (by omega) (by omega) (fun hn => absurd hn (show ¬ tnb T ≤ i by omega)) (fun h82 => ?_)
      refine run_ok 1 (c' := (86, [(0, .ref 23), (1, .int (nI w)), (2, .int (nI i))], [.ref 23], u)) rfl ?_
      refine x_gett (t := 5) rfl rfl htl ?_
      refine run_ok 2 (c' := (93, [(0, .ref 23), (1, .int (nI w)), (2, .int (nI i))], [.int (nI i), .ref 9], u)) rfl ?_
      refine x_iaN (nI (tla T i)) rfl rfl (by decide) (by omega) (t4 i (by omega)) ?_
      refine run_ok 1 (c' := (95, [(0, .ref 23), (1, .int (nI w)), (2, .int (nI i))], [.int (nI w), .int (nI (tla T i))], u)) rfl ?_
      refine x_icmpN_ne 103 rfl rfl (by omega) (by omega) (fun h95 => ?_) (fun h95 => ?_)
      · refine run_ok 1 (c' := (106, [(0, .ref 23), (1, .int (nI w)), (2, .int (nI i + nI 1))], [], u)) rfl ?_
        rw [nI_add i 1]
        refine run_ok 1 (c' := (74, [(0, .ref 23), (1, .int (nI w)), (2, .int (nI (i + 1)))], [], u)) rfl ?_
        refine ih u ?_ hf h2
        rw [show lnc T w (evs T w (tne T) V) (i + 1) = lnc T w (evs T w (tne T) V) i from if_neg h95]
        exact hCu
      · refine run_ok 2 (c' := (100, [(0, .ref 23), (1, .int (nI w)), (2, .int (nI i))], [.int (nI i), .ref 23], u)) rfl ?_
        refine x_callV [.int (nI i)] rfl cv_V_launch.1 lk_5_100 cv_V_launch.2.1 cv_V_launch.2.2.1 rfl cv_V_launch.2.2.2.1 rfl rfl (Nat.le_of_ble_eq_true rfl) (by decide) cv_V_launch.2.2.2.2 (c_launch5 u T (lnc T w (evs T w (tne T) V) i) ls i hTu hto hCu hVu.1 hi (((hVu.2.1 i (Nat.le_refl _)).1).trans (hu1 i hi (by omega)).1) (((hVu.2.1 i (Nat.le_refl _)).2).trans (hu1 i hi (by omega)).2)) ?_
        rintro r v ⟨hr, hCv, hfv, h2v⟩
        rw [hr]
        clear hr r
        refine run_ok 1 (c' := (106, [(0, .ref 23), (1, .int (nI w)), (2, .int (nI i + nI 1))], [], v)) rfl ?_
        rw [nI_add i 1]
        refine run_ok 1 (c' := (74, [(0, .ref 23), (1, .int (nI w)), (2, .int (nI (i + 1)))], [], v)) rfl ?_
        refine ih v ?_ (hf.tr hfv) (h2v.trans h2)
        rw [show lnc T w (evs T w (tne T) V) (i + 1) = lau T (lnc T w (evs T w (tne T) V) i) i from if_pos h95]
        exact hCv
  have H1 : ∀ i, i ≤ tne T → ∀ u : ST, CR 5 T (evs T w i V) (ls) u → fr VL S u → u.2 = S.2 → BX me_V_sail 3 none (fun r u => r = none ∧ CR 5 T (wkf T w V) (lsk T w (lnc T w (evs T w (tne T) V) (tnb T)) ls (tnb T)) u ∧ fr VL S u ∧ u.2 = S.2) (2, [(0, .ref 23), (1, .int (nI w)), (2, .int (nI i))], [], u) := by
    refine loop_up (P := fun i => ∀ u : ST, CR 5 T (evs T w i V) (ls) u → fr VL S u → u.2 = S.2 → BX me_V_sail 3 none (fun r u => r = none ∧ CR 5 T (wkf T w V) (lsk T w (lnc T w (evs T w (tne T) V) (tnb T)) ls (tnb T)) u ∧ fr VL S u ∧ u.2 = S.2) (2, [(0, .ref 23), (1, .int (nI w)), (2, .int (nI i))], [], u)) (tne T) ?_ ?_
    · intro u hCu hf h2
      have hTu : TR 5 T u := hT.keep hf (by decide)
      obtain ⟨t1, t2, t3, t4, t5, t6, t7, t8, t9, t10, t11⟩ := id hTu
      obtain ⟨h24, h25, h26, h27, h28, h29, hsr, g9, g10, g11, htl⟩ := id hCu
      refine run_ok 2 (c' := (4, [(0, .ref 23), (1, .int (nI w)), (2, .int (nI (tne T)))], [.ref 23, .int (nI (tne T))], u)) rfl ?_
      refine x_gett (t := 5) rfl rfl htl ?_
      refine run_ok 1 (c' := (10, [(0, .ref 23), (1, .int (nI w)), (2, .int (nI (tne T)))], [.int (u.1 5 10), .int (nI (tne T))], u)) rfl ?_
      refine x_top (v' := nI (tne T)) t10 ?_
      refine x_icmpN_ge 72 rfl rfl (by omega) (by omega) (fun h10 => ?_) (fun hn => absurd (Nat.le_refl _) hn)
      refine run_ok 2 (c' := (74, [(0, .ref 23), (1, .int (nI w)), (2, .int (nI 0))], [], u)) rfl ?_
      exact H2 0 (Nat.zero_le _) u hCu hf h2
    · intro i hi ih u hCu hf h2
      have hTu : TR 5 T u := hT.keep hf (by decide)
      obtain ⟨t1, t2, t3, t4, t5, t6, t7, t8, t9, t10, t11⟩ := id hTu
      obtain ⟨h24, h25, h26, h27, h28, h29, hsr, g9, g10, g11, htl⟩ := id hCu
      have hVu := vk_evs (w := w) hV hto i (by omega)
      have q1 := het i hi
      refine run_ok 2 (c' := (4, [(0, .ref 23), (1, .int (nI w)), (2, .int (nI i))], [.ref 23, .int (nI i)], u)) rfl ?_
      refine x_gett (t := 5) rfl rfl htl ?_
      refine run_ok 1 (c' := (10, [(0, .ref 23), (1, .int (nI w)), (2, .int (nI i))], [.int (u.1 5 10), .int (nI i)], u)) rfl ?_
      refine x_top (v' := nI (tne T)) t10 ?_
      refine x_icmpN_ge 72 rfl rfl (by omega) (by omega) (fun hn => absurd hn (show ¬ tne T ≤ i by omega)) (fun h10 => ?_)
      refine run_ok 1 (c' := (14, [(0, .ref 23), (1, .int (nI w)), (2, .int (nI i))], [.ref 23], u)) rfl ?_
      refine x_gett (t := 5) rfl rfl htl ?_
      refine run_ok 2 (c' := (19, [(0, .ref 23), (1, .int (nI w)), (2, .int (nI i))], [.int (nI w), .int (nI i), .ref 5], u)) rfl ?_
      refine x_callV [.int (nI i), .int (nI w)] rfl cv_T_isEventOf.1 lk_5_80 cv_T_isEventOf.2.1 cv_T_isEventOf.2.2.1 rfl cv_T_isEventOf.2.2.2.1 rfl rfl (Nat.le_of_ble_eq_true rfl) (by decide) cv_T_isEventOf.2.2.2.2 (c_isEv5 u T i w hTu hto hi hw) ?_
      rintro r v ⟨hr, hu⟩
      rw [hr, hu]
      clear hr hu r v
      refine x_ifB_eq 66 rfl rfl (fun h22 => ?_) (fun h22 => ?_)
      · refine run_ok 1 (c' := (69, [(0, .ref 23), (1, .int (nI w)), (2, .int (nI i + nI 1))], [], u)) rfl ?_
        rw [nI_add i 1]
        refine run_ok 1 (c' := (2, [(0, .ref 23), (1, .int (nI w)), (2, .int (nI (i + 1)))], [], u)) rfl ?_
        refine ih u ?_ hf h2
        rw [show evs T w (i + 1) V = evs T w i V from if_neg h22]
        exact hCu
      · refine run_ok 1 (c' := (26, [(0, .ref 23), (1, .int (nI w)), (2, .int (nI i))], [.ref 23], u)) rfl ?_
        refine x_gett (t := 5) rfl rfl htl ?_
        refine run_ok 2 (c' := (33, [(0, .ref 23), (1, .int (nI w)), (2, .int (nI i))], [.int (nI i), .ref 11], u)) rfl ?_
        refine x_iaN (nI (tek T i)) rfl rfl (by decide) (by omega) (t6 i (by omega)) ?_
        refine x_ifN_ne 44 rfl rfl (by omega) (fun h34 => ?_) (fun h34 => ?_)
        · refine run_ok 2 (c' := (46, [(0, .ref 23), (1, .int (nI w)), (2, .int (nI i))], [.ref 23, .ref 23], u)) rfl ?_
          refine x_gett (t := 5) rfl rfl htl ?_
          refine run_ok 2 (c' := (53, [(0, .ref 23), (1, .int (nI w)), (2, .int (nI i))], [.int (nI i), .ref 11, .ref 23], u)) rfl ?_
          refine x_iaN (nI (tek T i)) rfl rfl (by decide) (by omega) (t6 i (by omega)) ?_
          refine run_ok 1 (c' := (55, [(0, .ref 23), (1, .int (nI w)), (2, .int (nI i))], [.ref 23, .int (nI (tek T i)), .ref 23], u)) rfl ?_
          refine x_gett (t := 5) rfl rfl htl ?_
          refine run_ok 2 (c' := (62, [(0, .ref 23), (1, .int (nI w)), (2, .int (nI i))], [.int (nI i), .ref 13, .int (nI (tek T i)), .ref 23], u)) rfl ?_
          refine x_iaN (nI (teb T i)) rfl rfl (by decide) (by omega) (t8 i (by omega)) ?_
          refine x_callV [.int (nI (tek T i)), .int (nI (teb T i))] rfl cv_V_settle.1 lk_5_93 cv_V_settle.2.1 cv_V_settle.2.2.1 rfl cv_V_settle.2.2.2.1 rfl rfl (Nat.le_of_ble_eq_true rfl) (by decide) cv_V_settle.2.2.2.2 (c_settle5 u T (evs T w i V) ls (tek T i) (teb T i) hTu hto hCu hVu.1 q1.2.2 q1.1) ?_
          rintro r z ⟨hr, hCv, hfv, h2v⟩
          rw [hr]
          clear hr r
          refine run_ok 1 (c' := (69, [(0, .ref 23), (1, .int (nI w)), (2, .int (nI i + nI 1))], [], z)) rfl ?_
          rw [nI_add i 1]
          refine run_ok 1 (c' := (2, [(0, .ref 23), (1, .int (nI w)), (2, .int (nI (i + 1)))], [], z)) rfl ?_
          refine ih z ?_ (hf.tr hfv) (h2v.trans h2)
          rw [show evs T w (i + 1) V = (if vis (evs T w i V) (teb T i) = 1 then (if tek T i = 1 then shr T (evs T w i V) (teb T i) else mku T (evs T w i V) (teb T i)) else evs T w i V) from (if_pos h22).trans (if_neg h34)]
          exact hCv
        · refine run_ok 1 (c' := (38, [(0, .ref 23), (1, .int (nI w)), (2, .int (nI i))], [.ref 23], u)) rfl ?_
          refine x_callV [] rfl cv_V_storm.1 lk_5_87 cv_V_storm.2.1 cv_V_storm.2.2.1 rfl cv_V_storm.2.2.2.1 rfl rfl (Nat.le_of_ble_eq_true rfl) (by decide) cv_V_storm.2.2.2.2 (c_storm5 u T (evs T w i V) hTu htl hto h25 h28 (fun k hk => (hVu.1.2.2.1 k hk).1) (fun k hk => (hVu.1.2.1 k hk).1)) ?_
          rintro r v ⟨hr, hr28, hfv, h2v⟩
          rw [hr]
          clear hr r
          refine run_ok 2 (c' := (69, [(0, .ref 23), (1, .int (nI w)), (2, .int (nI i + nI 1))], [], v)) rfl ?_
          rw [nI_add i 1]
          refine run_ok 1 (c' := (2, [(0, .ref 23), (1, .int (nI w)), (2, .int (nI (i + 1)))], [], v)) rfl ?_
          refine ih v ?_ (hf.tr (hfv.sub (by decide))) (h2v.trans h2)
          rw [show evs T w (i + 1) V = stm T (evs T w i V) from (if_pos h22).trans (if_pos h34)]
          exact CR_stm hCu hr28 hfv h2v
  refine run_ok 2 (c' := (2, [(0, .ref 23), (1, .int (nI w)), (2, .int (nI 0))], [], S)) rfl ?_
  exact H1 0 (Nat.zero_le _) S hC fr.rf rfl

set_option maxHeartbeats 2000000 in
theorem c_sail14 (S : ST) (T : TD) (V : VS) (ls : Nat → Nat) (w : Nat) (hT : TR 14 T S) (hto : tok T) (hC : CR 14 T V ls S) (hV : vk T V) (hul : ul T w V) (hw : w < 24) : EX me_V_sail 3 [.ref 23, .int (nI w)] S (fun r u => r = none ∧ CR 14 T (wkf T w V) (lsk T w (lnc T w (evs T w (tne T) V) (tnb T)) ls (tnb T)) u ∧ fr VL S u ∧ u.2 = S.2) := by
  refine EX.of mok_V_sail (Nat.le_of_ble_eq_true rfl) ?_
  obtain ⟨n8, n9, hbt, het, hht, hlo⟩ := id hto
  obtain ⟨k1, k2, k3⟩ := vk_evs (w := w) hV hto (tne T) (Nat.le_refl _)
  have hu1 : ul T w (evs T w (tne T) V) := fun k hk hl => by rw [k2, k3]; exact hul k hk hl
  obtain ⟨l1, l2, l3⟩ := vk_lnc k1 hto hu1 (tnb T) (Nat.le_refl _)
  have H3 : ∀ i, i ≤ tnb T → ∀ u : ST, CR 14 T (sls T w (lnc T w (evs T w (tne T) V) (tnb T)) i) (lsk T w (lnc T w (evs T w (tne T) V) (tnb T)) ls i) u → fr VL S u → u.2 = S.2 → BX me_V_sail 3 none (fun r u => r = none ∧ CR 14 T (wkf T w V) (lsk T w (lnc T w (evs T w (tne T) V) (tnb T)) ls (tnb T)) u ∧ fr VL S u ∧ u.2 = S.2) (111, [(0, .ref 23), (1, .int (nI w)), (2, .int (nI i))], [], u) := by
    refine loop_up (P := fun i => ∀ u : ST, CR 14 T (sls T w (lnc T w (evs T w (tne T) V) (tnb T)) i) (lsk T w (lnc T w (evs T w (tne T) V) (tnb T)) ls i) u → fr VL S u → u.2 = S.2 → BX me_V_sail 3 none (fun r u => r = none ∧ CR 14 T (wkf T w V) (lsk T w (lnc T w (evs T w (tne T) V) (tnb T)) ls (tnb T)) u ∧ fr VL S u ∧ u.2 = S.2) (111, [(0, .ref 23), (1, .int (nI w)), (2, .int (nI i))], [], u)) (tnb T) ?_ ?_
    · intro u hCu hf h2
      have hTu : TR 14 T u := hT.keep hf (by decide)
      obtain ⟨t1, t2, t3, t4, t5, t6, t7, t8, t9, t10, t11⟩ := id hTu
      obtain ⟨h24, h25, h26, h27, h28, h29, hsr, g9, g10, g11, htl⟩ := id hCu
      refine run_ok 2 (c' := (113, [(0, .ref 23), (1, .int (nI w)), (2, .int (nI (tnb T)))], [.ref 23, .int (nI (tnb T))], u)) rfl ?_
      refine x_gett (t := 14) rfl rfl htl ?_
      refine run_ok 1 (c' := (119, [(0, .ref 23), (1, .int (nI w)), (2, .int (nI (tnb T)))], [.int (u.1 14 6), .int (nI (tnb T))], u)) rfl ?_
      refine x_top (v' := nI (tnb T)) t9 ?_
      refine x_icmpN_ge 144 rfl rfl (by omega) (by omega) (fun h119 => ?_) (fun hn => absurd (Nat.le_refl _) hn)
      exact x_ret (r := none) rfl rfl trivial ⟨rfl, hCu, hf, h2⟩ rfl
    · intro i hi ih u hCu hf h2
      have hTu : TR 14 T u := hT.keep hf (by decide)
      obtain ⟨t1, t2, t3, t4, t5, t6, t7, t8, t9, t10, t11⟩ := id hTu
      obtain ⟨h24, h25, h26, h27, h28, h29, hsr, g9, g10, g11, htl⟩ := id hCu
      have hVu := vk_sls (w := w) l1 hto hw i (by omega)
      have q1 := (hVu.1.2.1 i (by omega)).1
      refine run_ok 2 (c' := (113, [(0, .ref 23), (1, .int (nI w)), (2, .int (nI i))], [.ref 23, .int (nI i)], u)) rfl ?_
      refine x_gett (t := 14) rfl rfl htl ?_
      refine run_ok 1 (c' := (119, [(0, .ref 23), (1, .int (nI w)), (2, .int (nI i))], [.int (u.1 14 6), .int (nI i)], u)) rfl ?_
      refine x_top (v' := nI (tnb T)) t9 ?_
      refine x_icmpN_ge 144 rfl rfl (by omega) (by omega) (fun hn => absurd hn (show ¬ tnb T ≤ i by omega)) (fun h119 => ?_)
      refine run_ok 3 (c' := (127, [(0, .ref 23), (1, .int (nI w)), (2, .int (nI i))], [.int (nI i), .ref 25], u)) rfl ?_
      refine x_iaN (nI (vis (sls T w (lnc T w (evs T w (tne T) V) (tnb T)) i) i)) rfl rfl (by decide) (by omega) (h25 i (by omega)) ?_
      refine run_ok 1 (c' := (129, [(0, .ref 23), (1, .int (nI w)), (2, .int (nI i))], [.int (nI 1), .int (nI (vis (sls T w (lnc T w (evs T w (tne T) V) (tnb T)) i) i))], u)) rfl ?_
      refine x_icmpN_ne 138 rfl rfl (by omega) (by omega) (fun h129 => ?_) (fun h129 => ?_)
      · refine run_ok 1 (c' := (141, [(0, .ref 23), (1, .int (nI w)), (2, .int (nI i + nI 1))], [], u)) rfl ?_
        rw [nI_add i 1]
        refine run_ok 1 (c' := (111, [(0, .ref 23), (1, .int (nI w)), (2, .int (nI (i + 1)))], [], u)) rfl ?_
        refine ih u ?_ hf h2
        have es : sls T w (lnc T w (evs T w (tne T) V) (tnb T)) (i + 1) = sls T w (lnc T w (evs T w (tne T) V) (tnb T)) i := if_neg h129
        rw [show lsk T w (lnc T w (evs T w (tne T) V) (tnb T)) ls (i + 1) = (if vis (sls T w (lnc T w (evs T w (tne T) V) (tnb T)) (i + 1)) i = 1 then upn (lsk T w (lnc T w (evs T w (tne T) V) (tnb T)) ls i) i (lsk T w (lnc T w (evs T w (tne T) V) (tnb T)) ls i i + 1) else lsk T w (lnc T w (evs T w (tne T) V) (tnb T)) ls i) from rfl, es, if_neg h129]
        exact hCu
      · refine run_ok 3 (c' := (135, [(0, .ref 23), (1, .int (nI w)), (2, .int (nI i))], [.int (nI w), .int (nI i), .ref 23], u)) rfl ?_
        refine x_callV [.int (nI i), .int (nI w)] rfl cv_V_bear.1 lk_5_103 cv_V_bear.2.1 cv_V_bear.2.2.1 rfl cv_V_bear.2.2.2.1 rfl rfl (Nat.le_of_ble_eq_true rfl) (by decide) cv_V_bear.2.2.2.2 (c_bear14 u T (sls T w (lnc T w (evs T w (tne T) V) (tnb T)) i) (lsk T w (lnc T w (evs T w (tne T) V) (tnb T)) ls i) i w hTu hto hCu hVu.1 hi h129 hw) ?_
        rintro r v ⟨hr, hCv, hfv, h2v⟩
        rw [hr]
        clear hr r
        refine run_ok 1 (c' := (141, [(0, .ref 23), (1, .int (nI w)), (2, .int (nI i + nI 1))], [], v)) rfl ?_
        rw [nI_add i 1]
        refine run_ok 1 (c' := (111, [(0, .ref 23), (1, .int (nI w)), (2, .int (nI (i + 1)))], [], v)) rfl ?_
        refine ih v ?_ (hf.tr hfv) (h2v.trans h2)
        have es : sls T w (lnc T w (evs T w (tne T) V) (tnb T)) (i + 1) = bea T w (sls T w (lnc T w (evs T w (tne T) V) (tnb T)) i) i := if_pos h129
        rw [show lsk T w (lnc T w (evs T w (tne T) V) (tnb T)) ls (i + 1) = (if vis (sls T w (lnc T w (evs T w (tne T) V) (tnb T)) (i + 1)) i = 1 then upn (lsk T w (lnc T w (evs T w (tne T) V) (tnb T)) ls i) i (lsk T w (lnc T w (evs T w (tne T) V) (tnb T)) ls i i + 1) else lsk T w (lnc T w (evs T w (tne T) V) (tnb T)) ls i) from rfl, es]
        exact hCv
  have H2 : ∀ i, i ≤ tnb T → ∀ u : ST, CR 14 T (lnc T w (evs T w (tne T) V) i) (ls) u → fr VL S u → u.2 = S.2 → BX me_V_sail 3 none (fun r u => r = none ∧ CR 14 T (wkf T w V) (lsk T w (lnc T w (evs T w (tne T) V) (tnb T)) ls (tnb T)) u ∧ fr VL S u ∧ u.2 = S.2) (74, [(0, .ref 23), (1, .int (nI w)), (2, .int (nI i))], [], u) := by
    refine loop_up (P := fun i => ∀ u : ST, CR 14 T (lnc T w (evs T w (tne T) V) i) (ls) u → fr VL S u → u.2 = S.2 → BX me_V_sail 3 none (fun r u => r = none ∧ CR 14 T (wkf T w V) (lsk T w (lnc T w (evs T w (tne T) V) (tnb T)) ls (tnb T)) u ∧ fr VL S u ∧ u.2 = S.2) (74, [(0, .ref 23), (1, .int (nI w)), (2, .int (nI i))], [], u)) (tnb T) ?_ ?_
    · intro u hCu hf h2
      have hTu : TR 14 T u := hT.keep hf (by decide)
      obtain ⟨t1, t2, t3, t4, t5, t6, t7, t8, t9, t10, t11⟩ := id hTu
      obtain ⟨h24, h25, h26, h27, h28, h29, hsr, g9, g10, g11, htl⟩ := id hCu
      refine run_ok 2 (c' := (76, [(0, .ref 23), (1, .int (nI w)), (2, .int (nI (tnb T)))], [.ref 23, .int (nI (tnb T))], u)) rfl ?_
      refine x_gett (t := 14) rfl rfl htl ?_
      refine run_ok 1 (c' := (82, [(0, .ref 23), (1, .int (nI w)), (2, .int (nI (tnb T)))], [.int (u.1 14 6), .int (nI (tnb T))], u)) rfl ?_
      refine x_top (v' := nI (tnb T)) t9 ?_
      refine x_icmpN_ge 109 rfl rfl (by omega) (by omega) (fun h82 => ?_) (fun hn => absurd (Nat.le_refl _) hn)
      refine run_ok 2 (c' := (111, [(0, .ref 23), (1, .int (nI w)), (2, .int (nI 0))], [], u)) rfl ?_
      exact H3 0 (Nat.zero_le _) u hCu hf h2
    · intro i hi ih u hCu hf h2
      have hTu : TR 14 T u := hT.keep hf (by decide)
      obtain ⟨t1, t2, t3, t4, t5, t6, t7, t8, t9, t10, t11⟩ := id hTu
      obtain ⟨h24, h25, h26, h27, h28, h29, hsr, g9, g10, g11, htl⟩ := id hCu
      have hVu := vk_lnc k1 hto hu1 i (by omega)
      have q1 := (hbt i hi).2.2.1
      refine run_ok 2 (c' := (76, [(0, .ref 23), (1, .int (nI w)), (2, .int (nI i))], [.ref 23, .int (nI i)], u)) rfl ?_
      refine x_gett (t := 14) rfl rfl htl ?_
      refine run_ok 1 (c' := (82, [(0, .ref 23), (1, .int (nI w)), (2, .int (nI i))], [.int (u.1 14 6), .int (nI i)], u)) rfl ?_
      refine x_top (v' := nI (tnb T)) t9 ?_
      refine x_icmpN_ge 109 rfl rfl (by omega) (by omega) (fun hn => absurd hn (show ¬ tnb T ≤ i by omega)) (fun h82 => ?_)
      refine run_ok 1 (c' := (86, [(0, .ref 23), (1, .int (nI w)), (2, .int (nI i))], [.ref 23], u)) rfl ?_
      refine x_gett (t := 14) rfl rfl htl ?_
      refine run_ok 2 (c' := (93, [(0, .ref 23), (1, .int (nI w)), (2, .int (nI i))], [.int (nI i), .ref 18], u)) rfl ?_
      refine x_iaN (nI (tla T i)) rfl rfl (by decide) (by omega) (t4 i (by omega)) ?_
      refine run_ok 1 (c' := (95, [(0, .ref 23), (1, .int (nI w)), (2, .int (nI i))], [.int (nI w), .int (nI (tla T i))], u)) rfl ?_
      refine x_icmpN_ne 103 rfl rfl (by omega) (by omega) (fun h95 => ?_) (fun h95 => ?_)
      · refine run_ok 1 (c' := (106, [(0, .ref 23), (1, .int (nI w)), (2, .int (nI i + nI 1))], [], u)) rfl ?_
        rw [nI_add i 1]
        refine run_ok 1 (c' := (74, [(0, .ref 23), (1, .int (nI w)), (2, .int (nI (i + 1)))], [], u)) rfl ?_
        refine ih u ?_ hf h2
        rw [show lnc T w (evs T w (tne T) V) (i + 1) = lnc T w (evs T w (tne T) V) i from if_neg h95]
        exact hCu
      · refine run_ok 2 (c' := (100, [(0, .ref 23), (1, .int (nI w)), (2, .int (nI i))], [.int (nI i), .ref 23], u)) rfl ?_
        refine x_callV [.int (nI i)] rfl cv_V_launch.1 lk_5_100 cv_V_launch.2.1 cv_V_launch.2.2.1 rfl cv_V_launch.2.2.2.1 rfl rfl (Nat.le_of_ble_eq_true rfl) (by decide) cv_V_launch.2.2.2.2 (c_launch14 u T (lnc T w (evs T w (tne T) V) i) ls i hTu hto hCu hVu.1 hi (((hVu.2.1 i (Nat.le_refl _)).1).trans (hu1 i hi (by omega)).1) (((hVu.2.1 i (Nat.le_refl _)).2).trans (hu1 i hi (by omega)).2)) ?_
        rintro r v ⟨hr, hCv, hfv, h2v⟩
        rw [hr]
        clear hr r
        refine run_ok 1 (c' := (106, [(0, .ref 23), (1, .int (nI w)), (2, .int (nI i + nI 1))], [], v)) rfl ?_
        rw [nI_add i 1]
        refine run_ok 1 (c' := (74, [(0, .ref 23), (1, .int (nI w)), (2, .int (nI (i + 1)))], [], v)) rfl ?_
        refine ih v ?_ (hf.tr hfv) (h2v.trans h2)
        rw [show lnc T w (evs T w (tne T) V) (i + 1) = lau T (lnc T w (evs T w (tne T) V) i) i from if_pos h95]
        exact hCv
  have H1 : ∀ i, i ≤ tne T → ∀ u : ST, CR 14 T (evs T w i V) (ls) u → fr VL S u → u.2 = S.2 → BX me_V_sail 3 none (fun r u => r = none ∧ CR 14 T (wkf T w V) (lsk T w (lnc T w (evs T w (tne T) V) (tnb T)) ls (tnb T)) u ∧ fr VL S u ∧ u.2 = S.2) (2, [(0, .ref 23), (1, .int (nI w)), (2, .int (nI i))], [], u) := by
    refine loop_up (P := fun i => ∀ u : ST, CR 14 T (evs T w i V) (ls) u → fr VL S u → u.2 = S.2 → BX me_V_sail 3 none (fun r u => r = none ∧ CR 14 T (wkf T w V) (lsk T w (lnc T w (evs T w (tne T) V) (tnb T)) ls (tnb T)) u ∧ fr VL S u ∧ u.2 = S.2) (2, [(0, .ref 23), (1, .int (nI w)), (2, .int (nI i))], [], u)) (tne T) ?_ ?_
    · intro u hCu hf h2
      have hTu : TR 14 T u := hT.keep hf (by decide)
      obtain ⟨t1, t2, t3, t4, t5, t6, t7, t8, t9, t10, t11⟩ := id hTu
      obtain ⟨h24, h25, h26, h27, h28, h29, hsr, g9, g10, g11, htl⟩ := id hCu
      refine run_ok 2 (c' := (4, [(0, .ref 23), (1, .int (nI w)), (2, .int (nI (tne T)))], [.ref 23, .int (nI (tne T))], u)) rfl ?_
      refine x_gett (t := 14) rfl rfl htl ?_
      refine run_ok 1 (c' := (10, [(0, .ref 23), (1, .int (nI w)), (2, .int (nI (tne T)))], [.int (u.1 14 10), .int (nI (tne T))], u)) rfl ?_
      refine x_top (v' := nI (tne T)) t10 ?_
      refine x_icmpN_ge 72 rfl rfl (by omega) (by omega) (fun h10 => ?_) (fun hn => absurd (Nat.le_refl _) hn)
      refine run_ok 2 (c' := (74, [(0, .ref 23), (1, .int (nI w)), (2, .int (nI 0))], [], u)) rfl ?_
      exact H2 0 (Nat.zero_le _) u hCu hf h2
    · intro i hi ih u hCu hf h2
      have hTu : TR 14 T u := hT.keep hf (by decide)
      obtain ⟨t1, t2, t3, t4, t5, t6, t7, t8, t9, t10, t11⟩ := id hTu
      obtain ⟨h24, h25, h26, h27, h28, h29, hsr, g9, g10, g11, htl⟩ := id hCu
      have hVu := vk_evs (w := w) hV hto i (by omega)
      have q1 := het i hi
      refine run_ok 2 (c' := (4, [(0, .ref 23), (1, .int (nI w)), (2, .int (nI i))], [.ref 23, .int (nI i)], u)) rfl ?_
      refine x_gett (t := 14) rfl rfl htl ?_
      refine run_ok 1 (c' := (10, [(0, .ref 23), (1, .int (nI w)), (2, .int (nI i))], [.int (u.1 14 10), .int (nI i)], u)) rfl ?_
      refine x_top (v' := nI (tne T)) t10 ?_
      refine x_icmpN_ge 72 rfl rfl (by omega) (by omega) (fun hn => absurd hn (show ¬ tne T ≤ i by omega)) (fun h10 => ?_)
      refine run_ok 1 (c' := (14, [(0, .ref 23), (1, .int (nI w)), (2, .int (nI i))], [.ref 23], u)) rfl ?_
      refine x_gett (t := 14) rfl rfl htl ?_
      refine run_ok 2 (c' := (19, [(0, .ref 23), (1, .int (nI w)), (2, .int (nI i))], [.int (nI w), .int (nI i), .ref 14], u)) rfl ?_
      refine x_callV [.int (nI i), .int (nI w)] rfl cv_T_isEventOf.1 lk_5_80 cv_T_isEventOf.2.1 cv_T_isEventOf.2.2.1 rfl cv_T_isEventOf.2.2.2.1 rfl rfl (Nat.le_of_ble_eq_true rfl) (by decide) cv_T_isEventOf.2.2.2.2 (c_isEv14 u T i w hTu hto hi hw) ?_
      rintro r v ⟨hr, hu⟩
      rw [hr, hu]
      clear hr hu r v
      refine x_ifB_eq 66 rfl rfl (fun h22 => ?_) (fun h22 => ?_)
      · refine run_ok 1 (c' := (69, [(0, .ref 23), (1, .int (nI w)), (2, .int (nI i + nI 1))], [], u)) rfl ?_
        rw [nI_add i 1]
        refine run_ok 1 (c' := (2, [(0, .ref 23), (1, .int (nI w)), (2, .int (nI (i + 1)))], [], u)) rfl ?_
        refine ih u ?_ hf h2
        rw [show evs T w (i + 1) V = evs T w i V from if_neg h22]
        exact hCu
      · refine run_ok 1 (c' := (26, [(0, .ref 23), (1, .int (nI w)), (2, .int (nI i))], [.ref 23], u)) rfl ?_
        refine x_gett (t := 14) rfl rfl htl ?_
        refine run_ok 2 (c' := (33, [(0, .ref 23), (1, .int (nI w)), (2, .int (nI i))], [.int (nI i), .ref 20], u)) rfl ?_
        refine x_iaN (nI (tek T i)) rfl rfl (by decide) (by omega) (t6 i (by omega)) ?_
        refine x_ifN_ne 44 rfl rfl (by omega) (fun h34 => ?_) (fun h34 => ?_)
        · refine run_ok 2 (c' := (46, [(0, .ref 23), (1, .int (nI w)), (2, .int (nI i))], [.ref 23, .ref 23], u)) rfl ?_
          refine x_gett (t := 14) rfl rfl htl ?_
          refine run_ok 2 (c' := (53, [(0, .ref 23), (1, .int (nI w)), (2, .int (nI i))], [.int (nI i), .ref 20, .ref 23], u)) rfl ?_
          refine x_iaN (nI (tek T i)) rfl rfl (by decide) (by omega) (t6 i (by omega)) ?_
          refine run_ok 1 (c' := (55, [(0, .ref 23), (1, .int (nI w)), (2, .int (nI i))], [.ref 23, .int (nI (tek T i)), .ref 23], u)) rfl ?_
          refine x_gett (t := 14) rfl rfl htl ?_
          refine run_ok 2 (c' := (62, [(0, .ref 23), (1, .int (nI w)), (2, .int (nI i))], [.int (nI i), .ref 22, .int (nI (tek T i)), .ref 23], u)) rfl ?_
          refine x_iaN (nI (teb T i)) rfl rfl (by decide) (by omega) (t8 i (by omega)) ?_
          refine x_callV [.int (nI (tek T i)), .int (nI (teb T i))] rfl cv_V_settle.1 lk_5_93 cv_V_settle.2.1 cv_V_settle.2.2.1 rfl cv_V_settle.2.2.2.1 rfl rfl (Nat.le_of_ble_eq_true rfl) (by decide) cv_V_settle.2.2.2.2 (c_settle14 u T (evs T w i V) ls (tek T i) (teb T i) hTu hto hCu hVu.1 q1.2.2 q1.1) ?_
          rintro r z ⟨hr, hCv, hfv, h2v⟩
          rw [hr]
          clear hr r
          refine run_ok 1 (c' := (69, [(0, .ref 23), (1, .int (nI w)), (2, .int (nI i + nI 1))], [], z)) rfl ?_
          rw [nI_add i 1]
          refine run_ok 1 (c' := (2, [(0, .ref 23), (1, .int (nI w)), (2, .int (nI (i + 1)))], [], z)) rfl ?_
          refine ih z ?_ (hf.tr hfv) (h2v.trans h2)
          rw [show evs T w (i + 1) V = (if vis (evs T w i V) (teb T i) = 1 then (if tek T i = 1 then shr T (evs T w i V) (teb T i) else mku T (evs T w i V) (teb T i)) else evs T w i V) from (if_pos h22).trans (if_neg h34)]
          exact hCv
        · refine run_ok 1 (c' := (38, [(0, .ref 23), (1, .int (nI w)), (2, .int (nI i))], [.ref 23], u)) rfl ?_
          refine x_callV [] rfl cv_V_storm.1 lk_5_87 cv_V_storm.2.1 cv_V_storm.2.2.1 rfl cv_V_storm.2.2.2.1 rfl rfl (Nat.le_of_ble_eq_true rfl) (by decide) cv_V_storm.2.2.2.2 (c_storm14 u T (evs T w i V) hTu htl hto h25 h28 (fun k hk => (hVu.1.2.2.1 k hk).1) (fun k hk => (hVu.1.2.1 k hk).1)) ?_
          rintro r v ⟨hr, hr28, hfv, h2v⟩
          rw [hr]
          clear hr r
          refine run_ok 2 (c' := (69, [(0, .ref 23), (1, .int (nI w)), (2, .int (nI i + nI 1))], [], v)) rfl ?_
          rw [nI_add i 1]
          refine run_ok 1 (c' := (2, [(0, .ref 23), (1, .int (nI w)), (2, .int (nI (i + 1)))], [], v)) rfl ?_
          refine ih v ?_ (hf.tr (hfv.sub (by decide))) (h2v.trans h2)
          rw [show evs T w (i + 1) V = stm T (evs T w i V) from (if_pos h22).trans (if_pos h34)]
          exact CR_stm hCu hr28 hfv h2v
  refine run_ok 2 (c' := (2, [(0, .ref 23), (1, .int (nI w)), (2, .int (nI 0))], [], S)) rfl ?_
  exact H1 0 (Nat.zero_le _) S hC fr.rf rfl


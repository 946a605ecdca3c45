/-! the voyage of the class: sink, bear -/
set_option maxHeartbeats 2000000 in
theorem c_sink5 (S : ST) (T : TD) (V : VS) (ls : Nat → Nat) (k w : Nat) (hto : tok T) (hC : CR 5 T V ls S) (hh9 : ∀ j, j < 64 → vh V j ≤ 9) (hfw : vfw V ≤ 24) (hk : k < tnb T) (h1 : vis V k = 1) (hnm : vnm V k < 8) (hw : w < 24) : EX me_V_sink 0 [.ref 23, .int (nI k), .int (nI w)] S (fun r u => r = none ∧ CR 5 T (snk T w V k) ls u ∧ fr VL S u ∧ u.2 = S.2) := by
  refine EX.of mok_V_sink (Nat.le_of_ble_eq_true rfl) ?_
  obtain ⟨n8, n9, hbt, het, hht, hlo⟩ := id hto
  obtain ⟨h24, h25, h26, h27, h28, h29, hsr, g9, g10, g11, htl⟩ := id hC
  have q2 := (hbt k hk).2.1
  have q3 := hh9 (8 * tbu T k + vnm V k) (by omega)
  obtain ⟨e30, e31⟩ := hsr k (by omega) h1
  have ql : 0 < lft T V := cnt_1 (k := k) (by simp [h1]) hk
  have ql2 : lft T V ≤ tnb T := cnt_le _ _
  refine run_ok 4 (c' := (6, [(0, .ref 23), (1, .int (nI k)), (2, .int (nI w))], [.int (nI 2), .int (nI k), .ref 25], S)) rfl ?_
  refine x_isN rfl rfl (by decide) (by omega) ?_
  refine run_ok 3 (c' := (12, [(0, .ref 23), (1, .int (nI k)), (2, .int (nI w))], [.int (S.1 23 9), .ref 23], (pt S 25 k (nI 2)))) rfl ?_
  refine x_top (v' := nI (lft T V)) g9 ?_
  refine run_ok 8 (c' := (26, [(0, .ref 23), (1, .int (nI k)), (2, .int (nI w))], [.int (nI k), .ref 31, .ref 24], (pt (pt S 25 k (nI 2)) 23 9 ((nI (lft T V)) - (nI 1))))) rfl ?_
  refine x_iaN (nI (8 * tbu T k + vnm V k)) rfl rfl (by decide) (by omega) e31 ?_
  refine x_iaN (nI (vh V (8 * tbu T k + vnm V k))) rfl rfl (by decide) (by omega) (h24 (8 * tbu T k + vnm V k) (by omega)) ?_
  refine run_ok 1 (c' := (30, [(0, .ref 23), (1, .int (nI k)), (2, .int (nI w))], [.int (nI 9), .int (nI (vh V (8 * tbu T k + vnm V k)))], (pt (pt S 25 k (nI 2)) 23 9 ((nI (lft T V)) - (nI 1))))) rfl ?_
  refine x_icmpN_ge 48 rfl rfl (by omega) (by omega) (fun h30 => ?_) (fun h30 => ?_)
  · refine run_ok 2 (c' := (52, [(0, .ref 23), (1, .int (nI k)), (2, .int (nI w))], [.int (S.1 23 10)], (pt (pt S 25 k (nI 2)) 23 9 ((nI (lft T V)) - (nI 1))))) rfl ?_
    refine x_top (v' := fwv (vfw V)) g10 ?_
    refine run_ok 1 (c' := (53, [(0, .ref 23), (1, .int (nI k)), (2, .int (nI w))], [.int (-1), .int (fwv (vfw V))], (pt (pt S 25 k (nI 2)) 23 9 ((nI (lft T V)) - (nI 1))))) rfl ?_
    refine x_icmp_ne 66 rfl rfl (fun h53 => ?_) (fun h53 => ?_)
    · refine x_ret (r := none) rfl rfl trivial ?_ rfl
      have el := lft_dn (T := T) (V := V) (V' := snk T w V k) hk (by omega) (by show 1 < upn (vis V) k 2 k; rw [upn_s]; decide) (fun j hj => upn_n hj)
      refine ⟨rfl, ⟨?_, ?_, h26, h27, h28, h29, ?_, ?_, ?_, ?_, htl⟩, ((fr.rf.pt (by decide)).pt (by decide)), rfl⟩
      · intro j hj
        show S.1 24 j = nI (upn (vh V) (8 * tbu T k + vnm V k) (if vh V (8 * tbu T k + vnm V k) < 9 then vh V (8 * tbu T k + vnm V k) + 1 else vh V (8 * tbu T k + vnm V k)) j)
        by_cases e : j = 8 * tbu T k + vnm V k
        · rw [e, upn_s, if_neg (by omega)]; exact h24 _ (by omega)
        · rw [upn_n e]; exact h24 j hj
      · exact (h25.put : rh (pt S 25 k (nI 2)) 25 8 _)
      · intro j hj h1
        have h3 : upn (vis V) k 2 j = 1 := h1
        have e : j ≠ k := fun e => by rw [e, upn_s] at h3; cases h3
        rw [upn_n e] at h3
        exact hsr j hj h3
      · show nI (lft T V) - nI 1 = nI (lft T (snk T w V k))
        rw [pk_sub (by omega), el]; rfl
      · show S.1 23 10 = fwv (if vfw V = 24 then w else vfw V)
        rw [if_neg (fun z => h53 ((fwv_n1 hfw).mpr z))]; exact g10
      · show S.1 23 11 = nmv (if vfw V = 24 then k else vfb V)
        rw [if_neg (fun z => h53 ((fwv_n1 hfw).mpr z))]; exact g11
    · refine run_ok 6 (c' := (66, [(0, .ref 23), (1, .int (nI k)), (2, .int (nI w))], [], (pt (pt (pt (pt S 25 k (nI 2)) 23 9 ((nI (lft T V)) - (nI 1))) 23 10 (nI w)) 23 11 (nI k)))) rfl ?_
      refine x_ret (r := none) rfl rfl trivial ?_ rfl
      have el := lft_dn (T := T) (V := V) (V' := snk T w V k) hk (by omega) (by show 1 < upn (vis V) k 2 k; rw [upn_s]; decide) (fun j hj => upn_n hj)
      refine ⟨rfl, ⟨?_, ?_, h26, h27, h28, h29, ?_, ?_, ?_, ?_, htl⟩, ((((fr.rf.pt (by decide)).pt (by decide)).pt (by decide)).pt (by decide)), rfl⟩
      · intro j hj
        show S.1 24 j = nI (upn (vh V) (8 * tbu T k + vnm V k) (if vh V (8 * tbu T k + vnm V k) < 9 then vh V (8 * tbu T k + vnm V k) + 1 else vh V (8 * tbu T k + vnm V k)) j)
        by_cases e : j = 8 * tbu T k + vnm V k
        · rw [e, upn_s, if_neg (by omega)]; exact h24 _ (by omega)
        · rw [upn_n e]; exact h24 j hj
      · exact (h25.put : rh (pt S 25 k (nI 2)) 25 8 _)
      · intro j hj h1
        have h3 : upn (vis V) k 2 j = 1 := h1
        have e : j ≠ k := fun e => by rw [e, upn_s] at h3; cases h3
        rw [upn_n e] at h3
        exact hsr j hj h3
      · show nI (lft T V) - nI 1 = nI (lft T (snk T w V k))
        rw [pk_sub (by omega), el]; rfl
      · show nI w = fwv (if vfw V = 24 then w else vfw V)
        rw [if_pos ((fwv_n1 hfw).mp h53), fwv_lt hw]
      · show nI k = nmv (if vfw V = 24 then k else vfb V)
        rw [if_pos ((fwv_n1 hfw).mp h53), nmv_lt (by omega)]
  · refine run_ok 5 (c' := (42, [(0, .ref 23), (1, .int (nI k)), (2, .int (nI w))], [.int (nI k), .ref 31, .ref 24], (pt (pt S 25 k (nI 2)) 23 9 ((nI (lft T V)) - (nI 1))))) rfl ?_
    refine x_iaN (nI (8 * tbu T k + vnm V k)) rfl rfl (by decide) (by omega) e31 ?_
    refine run_ok 1 (c' := (44, [(0, .ref 23), (1, .int (nI k)), (2, .int (nI w))], [.int (nI (8 * tbu T k + vnm V k)), .ref 24, .int (nI (8 * tbu T k + vnm V k)), .ref 24], (pt (pt S 25 k (nI 2)) 23 9 ((nI (lft T V)) - (nI 1))))) rfl ?_
    refine x_iaN (nI (vh V (8 * tbu T k + vnm V k))) rfl rfl (by decide) (by omega) (h24 (8 * tbu T k + vnm V k) (by omega)) ?_
    refine run_ok 2 (c' := (47, [(0, .ref 23), (1, .int (nI k)), (2, .int (nI w))], [.int ((nI (vh V (8 * tbu T k + vnm V k))) + (nI 1)), .int (nI (8 * tbu T k + vnm V k)), .ref 24], (pt (pt S 25 k (nI 2)) 23 9 ((nI (lft T V)) - (nI 1))))) rfl ?_
    refine x_top (v' := nI ((vh V (8 * tbu T k + vnm V k)) + 1)) (nI_add _ _) ?_
    refine x_isN rfl rfl (by decide) (by omega) ?_
    refine run_ok 2 (c' := (52, [(0, .ref 23), (1, .int (nI k)), (2, .int (nI w))], [.int (S.1 23 10)], (pt (pt (pt S 25 k (nI 2)) 23 9 ((nI (lft T V)) - (nI 1))) 24 (8 * tbu T k + vnm V k) (nI ((vh V (8 * tbu T k + vnm V k)) + 1))))) rfl ?_
    refine x_top (v' := fwv (vfw V)) g10 ?_
    refine run_ok 1 (c' := (53, [(0, .ref 23), (1, .int (nI k)), (2, .int (nI w))], [.int (-1), .int (fwv (vfw V))], (pt (pt (pt S 25 k (nI 2)) 23 9 ((nI (lft T V)) - (nI 1))) 24 (8 * tbu T k + vnm V k) (nI ((vh V (8 * tbu T k + vnm V k)) + 1))))) rfl ?_
    refine x_icmp_ne 66 rfl rfl (fun h53 => ?_) (fun h53 => ?_)
    · refine x_ret (r := none) rfl rfl trivial ?_ rfl
      have el := lft_dn (T := T) (V := V) (V' := snk T w V k) hk (by omega) (by show 1 < upn (vis V) k 2 k; rw [upn_s]; decide) (fun j hj => upn_n hj)
      refine ⟨rfl, ⟨?_, ?_, h26, h27, h28, h29, ?_, ?_, ?_, ?_, htl⟩, (((fr.rf.pt (by decide)).pt (by decide)).pt (by decide)), rfl⟩
      · have e1 : (if vh V (8 * tbu T k + vnm V k) < 9 then vh V (8 * tbu T k + vnm V k) + 1 else vh V (8 * tbu T k + vnm V k)) = vh V (8 * tbu T k + vnm V k) + 1 := if_pos (by omega)
        show rh _ 24 64 (upn (vh V) (8 * tbu T k + vnm V k) (if vh V (8 * tbu T k + vnm V k) < 9 then vh V (8 * tbu T k + vnm V k) + 1 else vh V (8 * tbu T k + vnm V k)))
        rw [e1]
        exact (h24.put : rh (pt S 24 (8 * tbu T k + vnm V k) (nI (vh V (8 * tbu T k + vnm V k) + 1))) 24 64 _)
      · exact (h25.put : rh (pt S 25 k (nI 2)) 25 8 _)
      · intro j hj h1
        have h3 : upn (vis V) k 2 j = 1 := h1
        have e : j ≠ k := fun e => by rw [e, upn_s] at h3; cases h3
        rw [upn_n e] at h3
        exact hsr j hj h3
      · show nI (lft T V) - nI 1 = nI (lft T (snk T w V k))
        rw [pk_sub (by omega), el]; rfl
      · show S.1 23 10 = fwv (if vfw V = 24 then w else vfw V)
        rw [if_neg (fun z => h53 ((fwv_n1 hfw).mpr z))]; exact g10
      · show S.1 23 11 = nmv (if vfw V = 24 then k else vfb V)
        rw [if_neg (fun z => h53 ((fwv_n1 hfw).mpr z))]; exact g11
    · refine run_ok 6 (c' := (66, [(0, .ref 23), (1, .int (nI k)), (2, .int (nI w))], [], (pt (pt (pt (pt (pt S 25 k (nI 2)) 23 9 ((nI (lft T V)) - (nI 1))) 24 (8 * tbu T k + vnm V k) (nI ((vh V (8 * tbu T k + vnm V k)) + 1))) 23 10 (nI w)) 23 11 (nI k)))) rfl ?_
      refine x_ret (r := none) rfl rfl trivial ?_ rfl
      have el := lft_dn (T := T) (V := V) (V' := snk T w V k) hk (by omega) (by show 1 < upn (vis V) k 2 k; rw [upn_s]; decide) (fun j hj => upn_n hj)
      refine ⟨rfl, ⟨?_, ?_, h26, h27, h28, h29, ?_, ?_, ?_, ?_, htl⟩, (((((fr.rf.pt (by decide)).pt (by decide)).pt (by decide)).pt (by decide)).pt (by decide)), rfl⟩
      · have e1 : (if vh V (8 * tbu T k + vnm V k) < 9 then vh V (8 * tbu T k + vnm V k) + 1 else vh V (8 * tbu T k + vnm V k)) = vh V (8 * tbu T k + vnm V k) + 1 := if_pos (by omega)
        show rh _ 24 64 (upn (vh V) (8 * tbu T k + vnm V k) (if vh V (8 * tbu T k + vnm V k) < 9 then vh V (8 * tbu T k + vnm V k) + 1 else vh V (8 * tbu T k + vnm V k)))
        rw [e1]
        exact (h24.put : rh (pt S 24 (8 * tbu T k + vnm V k) (nI (vh V (8 * tbu T k + vnm V k) + 1))) 24 64 _)
      · exact (h25.put : rh (pt S 25 k (nI 2)) 25 8 _)
      · intro j hj h1
        have h3 : upn (vis V) k 2 j = 1 := h1
        have e : j ≠ k := fun e => by rw [e, upn_s] at h3; cases h3
        rw [upn_n e] at h3
        exact hsr j hj h3
      · show nI (lft T V) - nI 1 = nI (lft T (snk T w V k))
        rw [pk_sub (by omega), el]; rfl
      · show nI w = fwv (if vfw V = 24 then w else vfw V)
        rw [if_pos ((fwv_n1 hfw).mp h53), fwv_lt hw]
      · show nI k = nmv (if vfw V = 24 then k else vfb V)
        rw [if_pos ((fwv_n1 hfw).mp h53), nmv_lt (by omega)]

set_option maxHeartbeats 2000000 in
theorem c_sink14 (S : ST) (T : TD) (V : VS) (ls : Nat → Nat) (k w : Nat) (hto : tok T) (hC : CR 14 T V ls S) (hh9 : ∀ j, j < 64 → vh V j ≤ 9) (hfw : vfw V ≤ 24) (hk : k < tnb T) (h1 : vis V k = 1) (hnm : vnm V k < 8) (hw : w < 24) : EX me_V_sink 0 [.ref 23, .int (nI k), .int (nI w)] S (fun r u => r = none ∧ CR 14 T (snk T w V k) ls u ∧ fr VL S u ∧ u.2 = S.2) := by
  refine EX.of mok_V_sink (Nat.le_of_ble_eq_true rfl) ?_
  obtain ⟨n8, n9, hbt, het, hht, hlo⟩ := id hto
  obtain ⟨h24, h25, h26, h27, h28, h29, hsr, g9, g10, g11, htl⟩ := id hC
  have q2 := (hbt k hk).2.1
  have q3 := hh9 (8 * tbu T k + vnm V k) (by omega)
  obtain ⟨e30, e31⟩ := hsr k (by omega) h1
  have ql : 0 < lft T V := cnt_1 (k := k) (by simp [h1]) hk
  have ql2 : lft T V ≤ tnb T := cnt_le _ _
  refine run_ok 4 (c' := (6, [(0, .ref 23), (1, .int (nI k)), (2, .int (nI w))], [.int (nI 2), .int (nI k), .ref 25], S)) rfl ?_
  refine x_isN rfl rfl (by decide) (by omega) ?_
  refine run_ok 3 (c' := (12, [(0, .ref 23), (1, .int (nI k)), (2, .int (nI w))], [.int (S.1 23 9), .ref 23], (pt S 25 k (nI 2)))) rfl ?_
  refine x_top (v' := nI (lft T V)) g9 ?_
  refine run_ok 8 (c' := (26, [(0, .ref 23), (1, .int (nI k)), (2, .int (nI w))], [.int (nI k), .ref 31, .ref 24], (pt (pt S 25 k (nI 2)) 23 9 ((nI (lft T V)) - (nI 1))))) rfl ?_
  refine x_iaN (nI (8 * tbu T k + vnm V k)) rfl rfl (by decide) (by omega) e31 ?_
  refine x_iaN (nI (vh V (8 * tbu T k + vnm V k))) rfl rfl (by decide) (by omega) (h24 (8 * tbu T k + vnm V k) (by omega)) ?_
  refine run_ok 1 (c' := (30, [(0, .ref 23), (1, .int (nI k)), (2, .int (nI w))], [.int (nI 9), .int (nI (vh V (8 * tbu T k + vnm V k)))], (pt (pt S 25 k (nI 2)) 23 9 ((nI (lft T V)) - (nI 1))))) rfl ?_
  refine x_icmpN_ge 48 rfl rfl (by omega) (by omega) (fun h30 => ?_) (fun h30 => ?_)
  · refine run_ok 2 (c' := (52, [(0, .ref 23), (1, .int (nI k)), (2, .int (nI w))], [.int (S.1 23 10)], (pt (pt S 25 k (nI 2)) 23 9 ((nI (lft T V)) - (nI 1))))) rfl ?_
    refine x_top (v' := fwv (vfw V)) g10 ?_
    refine run_ok 1 (c' := (53, [(0, .ref 23), (1, .int (nI k)), (2, .int (nI w))], [.int (-1), .int (fwv (vfw V))], (pt (pt S 25 k (nI 2)) 23 9 ((nI (lft T V)) - (nI 1))))) rfl ?_
    refine x_icmp_ne 66 rfl rfl (fun h53 => ?_) (fun h53 => ?_)
    · refine x_ret (r := none) rfl rfl trivial ?_ rfl
      have el := lft_dn (T := T) (V := V) (V' := snk T w V k) hk (by omega) (by show 1 < upn (vis V) k 2 k; rw [upn_s]; decide) (fun j hj => upn_n hj)
      refine ⟨rfl, ⟨?_, ?_, h26, h27, h28, h29, ?_, ?_, ?_, ?_, htl⟩, ((fr.rf.pt (by decide)).pt (by decide)), rfl⟩
      · intro j hj
        show S.1 24 j = nI (upn (vh V) (8 * tbu T k + vnm V k) (if vh V (8 * tbu T k + vnm V k) < 9 then vh V (8 * tbu T k + vnm V k) + 1 else vh V (8 * tbu T k + vnm V k)) j)
        by_cases e : j = 8 * tbu T k + vnm V k
        · rw [e, upn_s, if_neg (by omega)]; exact h24 _ (by omega)
        · rw [upn_n e]; exact h24 j hj
      · exact (h25.put : rh (pt S 25 k (nI 2)) 25 8 _)
      · intro j hj h1
        have h3 : upn (vis V) k 2 j = 1 := h1
        have e : j ≠ k := fun e => by rw [e, upn_s] at h3; cases h3
        rw [upn_n e] at h3
        exact hsr j hj h3
      · show nI (lft T V) - nI 1 = nI (lft T (snk T w V k))
        rw [pk_sub (by omega), el]; rfl
      · show S.1 23 10 = fwv (if vfw V = 24 then w else vfw V)
        rw [if_neg (fun z => h53 ((fwv_n1 hfw).mpr z))]; exact g10
      · show S.1 23 11 = nmv (if vfw V = 24 then k else vfb V)
        rw [if_neg (fun z => h53 ((fwv_n1 hfw).mpr z))]; exact g11
    · refine run_ok 6 (c' := (66, [(0, .ref 23), (1, .int (nI k)), (2, .int (nI w))], [], (pt (pt (pt (pt S 25 k (nI 2)) 23 9 ((nI (lft T V)) - (nI 1))) 23 10 (nI w)) 23 11 (nI k)))) rfl ?_
      refine x_ret (r := none) rfl rfl trivial ?_ rfl
      have el := lft_dn (T := T) (V := V) (V' := snk T w V k) hk (by omega) (by show 1 < upn (vis V) k 2 k; rw [upn_s]; decide) (fun j hj => upn_n hj)
      refine ⟨rfl, ⟨?_, ?_, h26, h27, h28, h29, ?_, ?_, ?_, ?_, htl⟩, ((((fr.rf.pt (by decide)).pt (by decide)).pt (by decide)).pt (by decide)), rfl⟩
      · intro j hj
        show S.1 24 j = nI (upn (vh V) (8 * tbu T k + vnm V k) (if vh V (8 * tbu T k + vnm V k) < 9 then vh V (8 * tbu T k + vnm V k) + 1 else vh V (8 * tbu T k + vnm V k)) j)
        by_cases e : j = 8 * tbu T k + vnm V k
        · rw [e, upn_s, if_neg (by omega)]; exact h24 _ (by omega)
        · rw [upn_n e]; exact h24 j hj
      · exact (h25.put : rh (pt S 25 k (nI 2)) 25 8 _)
      · intro j hj h1
        have h3 : upn (vis V) k 2 j = 1 := h1
        have e : j ≠ k := fun e => by rw [e, upn_s] at h3; cases h3
        rw [upn_n e] at h3
        exact hsr j hj h3
      · show nI (lft T V) - nI 1 = nI (lft T (snk T w V k))
        rw [pk_sub (by omega), el]; rfl
      · show nI w = fwv (if vfw V = 24 then w else vfw V)
        rw [if_pos ((fwv_n1 hfw).mp h53), fwv_lt hw]
      · show nI k = nmv (if vfw V = 24 then k else vfb V)
        rw [if_pos ((fwv_n1 hfw).mp h53), nmv_lt (by omega)]
  · refine run_ok 5 (c' := (42, [(0, .ref 23), (1, .int (nI k)), (2, .int (nI w))], [.int (nI k), .ref 31, .ref 24], (pt (pt S 25 k (nI 2)) 23 9 ((nI (lft T V)) - (nI 1))))) rfl ?_
    refine x_iaN (nI (8 * tbu T k + vnm V k)) rfl rfl (by decide) (by omega) e31 ?_
    refine run_ok 1 (c' := (44, [(0, .ref 23), (1, .int (nI k)), (2, .int (nI w))], [.int (nI (8 * tbu T k + vnm V k)), .ref 24, .int (nI (8 * tbu T k + vnm V k)), .ref 24], (pt (pt S 25 k (nI 2)) 23 9 ((nI (lft T V)) - (nI 1))))) rfl ?_
    refine x_iaN (nI (vh V (8 * tbu T k + vnm V k))) rfl rfl (by decide) (by omega) (h24 (8 * tbu T k + vnm V k) (by omega)) ?_
    refine run_ok 2 (c' := (47, [(0, .ref 23), (1, .int (nI k)), (2, .int (nI w))], [.int ((nI (vh V (8 * tbu T k + vnm V k))) + (nI 1)), .int (nI (8 * tbu T k + vnm V k)), .ref 24], (pt (pt S 25 k (nI 2)) 23 9 ((nI (lft T V)) - (nI 1))))) rfl ?_
    refine x_top (v' := nI ((vh V (8 * tbu T k + vnm V k)) + 1)) (nI_add _ _) ?_
    refine x_isN rfl rfl (by decide) (by omega) ?_
    refine run_ok 2 (c' := (52, [(0, .ref 23), (1, .int (nI k)), (2, .int (nI w))], [.int (S.1 23 10)], (pt (pt (pt S 25 k (nI 2)) 23 9 ((nI (lft T V)) - (nI 1))) 24 (8 * tbu T k + vnm V k) (nI ((vh V (8 * tbu T k + vnm V k)) + 1))))) rfl ?_
    refine x_top (v' := fwv (vfw V)) g10 ?_
    refine run_ok 1 (c' := (53, [(0, .ref 23), (1, .int (nI k)), (2, .int (nI w))], [.int (-1), .int (fwv (vfw V))], (pt (pt (pt S 25 k (nI 2)) 23 9 ((nI (lft T V)) - (nI 1))) 24 (8 * tbu T k + vnm V k) (nI ((vh V (8 * tbu T k + vnm V k)) + 1))))) rfl ?_
    refine x_icmp_ne 66 rfl rfl (fun h53 => ?_) (fun h53 => ?_)
    · refine x_ret (r := none) rfl rfl trivial ?_ rfl
      have el := lft_dn (T := T) (V := V) (V' := snk T w V k) hk (by omega) (by show 1 < upn (vis V) k 2 k; rw [upn_s]; decide) (fun j hj => upn_n hj)
      refine ⟨rfl, ⟨?_, ?_, h26, h27, h28, h29, ?_, ?_, ?_, ?_, htl⟩, (((fr.rf.pt (by decide)).pt (by decide)).pt (by decide)), rfl⟩
      · have e1 : (if vh V (8 * tbu T k + vnm V k) < 9 then vh V (8 * tbu T k + vnm V k) + 1 else vh V (8 * tbu T k + vnm V k)) = vh V (8 * tbu T k + vnm V k) + 1 := if_pos (by omega)
        show rh _ 24 64 (upn (vh V) (8 * tbu T k + vnm V k) (if vh V (8 * tbu T k + vnm V k) < 9 then vh V (8 * tbu T k + vnm V k) + 1 else vh V (8 * tbu T k + vnm V k)))
        rw [e1]
        exact (h24.put : rh (pt S 24 (8 * tbu T k + vnm V k) (nI (vh V (8 * tbu T k + vnm V k) + 1))) 24 64 _)
      · exact (h25.put : rh (pt S 25 k (nI 2)) 25 8 _)
      · intro j hj h1
        have h3 : upn (vis V) k 2 j = 1 := h1
        have e : j ≠ k := fun e => by rw [e, upn_s] at h3; cases h3
        rw [upn_n e] at h3
        exact hsr j hj h3
      · show nI (lft T V) - nI 1 = nI (lft T (snk T w V k))
        rw [pk_sub (by omega), el]; rfl
      · show S.1 23 10 = fwv (if vfw V = 24 then w else vfw V)
        rw [if_neg (fun z => h53 ((fwv_n1 hfw).mpr z))]; exact g10
      · show S.1 23 11 = nmv (if vfw V = 24 then k else vfb V)
        rw [if_neg (fun z => h53 ((fwv_n1 hfw).mpr z))]; exact g11
    · refine run_ok 6 (c' := (66, [(0, .ref 23), (1, .int (nI k)), (2, .int (nI w))], [], (pt (pt (pt (pt (pt S 25 k (nI 2)) 23 9 ((nI (lft T V)) - (nI 1))) 24 (8 * tbu T k + vnm V k) (nI ((vh V (8 * tbu T k + vnm V k)) + 1))) 23 10 (nI w)) 23 11 (nI k)))) rfl ?_
      refine x_ret (r := none) rfl rfl trivial ?_ rfl
      have el := lft_dn (T := T) (V := V) (V' := snk T w V k) hk (by omega) (by show 1 < upn (vis V) k 2 k; rw [upn_s]; decide) (fun j hj => upn_n hj)
      refine ⟨rfl, ⟨?_, ?_, h26, h27, h28, h29, ?_, ?_, ?_, ?_, htl⟩, (((((fr.rf.pt (by decide)).pt (by decide)).pt (by decide)).pt (by decide)).pt (by decide)), rfl⟩
      · have e1 : (if vh V (8 * tbu T k + vnm V k) < 9 then vh V (8 * tbu T k + vnm V k) + 1 else vh V (8 * tbu T k + vnm V k)) = vh V (8 * tbu T k + vnm V k) + 1 := if_pos (by omega)
        show rh _ 24 64 (upn (vh V) (8 * tbu T k + vnm V k) (if vh V (8 * tbu T k + vnm V k) < 9 then vh V (8 * tbu T k + vnm V k) + 1 else vh V (8 * tbu T k + vnm V k)))
        rw [e1]
        exact (h24.put : rh (pt S 24 (8 * tbu T k + vnm V k) (nI (vh V (8 * tbu T k + vnm V k) + 1))) 24 64 _)
      · exact (h25.put : rh (pt S 25 k (nI 2)) 25 8 _)
      · intro j hj h1
        have h3 : upn (vis V) k 2 j = 1 := h1
        have e : j ≠ k := fun e => by rw [e, upn_s] at h3; cases h3
        rw [upn_n e] at h3
        exact hsr j hj h3
      · show nI (lft T V) - nI 1 = nI (lft T (snk T w V k))
        rw [pk_sub (by omega), el]; rfl
      · show nI w = fwv (if vfw V = 24 then w else vfw V)
        rw [if_pos ((fwv_n1 hfw).mp h53), fwv_lt hw]
      · show nI k = nmv (if vfw V = 24 then k else vfb V)
        rw [if_pos ((fwv_n1 hfw).mp h53), nmv_lt (by omega)]

set_option maxHeartbeats 2000000 in
theorem c_bear5 (S : ST) (T : TD) (V : VS) (ls : Nat → Nat) (k w : Nat) (hT : TR 5 T S) (hto : tok T) (hC : CR 5 T V ls S) (hV : vk T V) (hk : k < tnb T) (h1 : vis V k = 1) (hw : w < 24) : EX me_V_bear 1 [.ref 23, .int (nI k), .int (nI w)] S (fun r u => r = none ∧ CR 5 T (bea T w V k) (if vis (bea T w V k) k = 1 then upn ls k (ls k + 1) else ls) u ∧ fr VL S u ∧ u.2 = S.2) := by
  refine EX.of mok_V_bear (Nat.le_of_ble_eq_true rfl) ?_
  obtain ⟨n8, n9, hbt, het, hht, hlo⟩ := id hto
  obtain ⟨t1, t2, t3, t4, t5, t6, t7, t8, t9, t10, t11⟩ := id hT
  obtain ⟨h24, h25, h26, h27, h28, h29, hsr, g9, g10, g11, htl⟩ := id hC
  obtain ⟨hh9, hv3, hb9, hfw, hfb⟩ := id hV
  have q1 := (hv3 k (by omega)).2.2 h1
  have q2 := (hbt k hk).2.1
  have q3 := hh9 (8 * vnm V k + tbu T k) (by omega)
  obtain ⟨e30, e31⟩ := hsr k (by omega) h1
  have q4 := hb9 k hk
  have q5 := q4.2.2 (by omega)
  have q6 := (hbt k hk).1
  have q7 := brn_le (T := T) (V := V) (k := k) q5 q3
  refine run_ok 5 (c' := (9, [(0, .ref 23), (1, .int (nI k)), (2, .int (nI w))], [.int (nI k), .ref 30, .ref 24], S)) rfl ?_
  refine x_iaN (nI (8 * vnm V k + tbu T k)) rfl rfl (by decide) (by omega) e30 ?_
  refine x_iaN (nI (vh V (8 * vnm V k + tbu T k))) rfl rfl (by decide) (by omega) (h24 (8 * vnm V k + tbu T k) (by omega)) ?_
  refine run_ok 5 (c' := (18, [(0, .ref 23), (1, .int (nI k)), (2, .int (nI w)), (3, .int (nI (vh V (8 * vnm V k + tbu T k))))], [.int (nI k), .ref 27, .int (nI k), .ref 27], S)) rfl ?_
  refine x_iaN (nI (vgr V k)) rfl rfl (by decide) (by omega) (h27 k (by omega)) ?_
  refine run_ok 1 (c' := (20, [(0, .ref 23), (1, .int (nI k)), (2, .int (nI w)), (3, .int (nI (vh V (8 * vnm V k + tbu T k))))], [.ref 23, .int (nI (vgr V k)), .int (nI k), .ref 27], S)) rfl ?_
  refine x_gett (t := 5) rfl rfl htl ?_
  refine run_ok 2 (c' := (27, [(0, .ref 23), (1, .int (nI k)), (2, .int (nI w)), (3, .int (nI (vh V (8 * vnm V k + tbu T k))))], [.int (nI k), .ref 7, .int (nI (vgr V k)), .int (nI k), .ref 27], S)) rfl ?_
  refine x_iaN (nI (tso T k)) rfl rfl (by decide) (by omega) (t2 k (by omega)) ?_
  refine run_ok 1 (c' := (29, [(0, .ref 23), (1, .int (nI k)), (2, .int (nI w)), (3, .int (nI (vh V (8 * vnm V k + tbu T k))))], [.int (nI 1), .int (nI (tso T k)), .int (nI (vgr V k)), .int (nI k), .ref 27], S)) rfl ?_
  refine x_icmpN_ne 38 rfl rfl (by omega) (by omega) (fun h29x => ?_) (fun h29x => ?_)
  · refine run_ok 2 (c' := (40, [(0, .ref 23), (1, .int (nI k)), (2, .int (nI w)), (3, .int (nI (vh V (8 * vnm V k + tbu T k))))], [.int ((nI (vgr V k)) + (nI (vh V (8 * vnm V k + tbu T k)))), .int (nI k), .ref 27], S)) rfl ?_
    refine x_top (v' := nI ((vgr V k) + (vh V (8 * vnm V k + tbu T k)))) (nI_add _ _) ?_
    refine x_top (v' := nI (brn T V k)) (by unfold brn; rw [if_neg h29x]) ?_
    refine x_isN rfl rfl (by decide) (by omega) ?_
    refine run_ok 3 (c' := (46, [(0, .ref 23), (1, .int (nI k)), (2, .int (nI w)), (3, .int (nI (vh V (8 * vnm V k + tbu T k))))], [.int (nI k), .ref 28], (pt S 27 k (nI (brn T V k))))) rfl ?_
    refine x_iaN (nI (vho V k)) rfl rfl (by decide) (by omega) (h28 k (by omega)) ?_
    refine x_ifN_eq 67 rfl rfl (by omega) (fun h47 => ?_) (fun h47 => ?_)
    · refine run_ok 3 (c' := (70, [(0, .ref 23), (1, .int (nI k)), (2, .int (nI w)), (3, .int (nI (vh V (8 * vnm V k + tbu T k))))], [.int (nI w), .int (nI k), .ref 23], (pt S 27 k (nI (brn T V k))))) rfl ?_
      have hb := bea_s (T := T) (w := w) (V := V) (k := k) (Or.inr h47)
      refine x_callV [.int (nI k), .int (nI w)] rfl cv_V_sink.1 lk_5_125 cv_V_sink.2.1 cv_V_sink.2.2.1 rfl cv_V_sink.2.2.2.1 rfl rfl (Nat.le_of_ble_eq_true rfl) (by decide) cv_V_sink.2.2.2.2 (c_sink5 (pt S 27 k (nI (brn T V k))) T (bre T V k) ls k w hto ⟨h24, h25, h26, h27.put, h28, h29, hsr, g9, g10, g11, htl⟩ hh9 hfw hk h1 q1.2 hw) ?_
      rintro r u ⟨hr, hCu, hfu, h2u⟩
      rw [hr]
      clear hr r
      refine run_ok 1 (c' := (86, [(0, .ref 23), (1, .int (nI k)), (2, .int (nI w)), (3, .int (nI (vh V (8 * vnm V k + tbu T k))))], [], u)) rfl ?_
      refine x_ret (r := none) rfl rfl trivial ?_ rfl
      refine ⟨rfl, ?_, (fr.rf.pt (by decide)).tr hfu, h2u⟩
      rw [hb, if_neg (by show ¬ upn (vis V) k 2 k = 1; rw [upn_s]; decide)]
      exact hCu
    · refine run_ok 3 (c' := (55, [(0, .ref 23), (1, .int (nI k)), (2, .int (nI w)), (3, .int (nI (vh V (8 * vnm V k + tbu T k))))], [.int (nI k), .ref 27], (pt S 27 k (nI (brn T V k))))) rfl ?_
      refine x_iaN (nI (brn T V k)) rfl rfl (by decide) (by omega) (upd_s _ _ _) ?_
      refine run_ok 4 (c' := (62, [(0, .ref 23), (1, .int (nI k)), (2, .int (nI w)), (3, .int (nI (vh V (8 * vnm V k + tbu T k))))], [.int (nI k), .ref 28, .int (nI 3), .int (nI (brn T V k))], (pt S 27 k (nI (brn T V k))))) rfl ?_
      refine x_iaN (nI (vho V k)) rfl rfl (by decide) (by omega) (h28 k (by omega)) ?_
      refine run_ok 1 (c' := (64, [(0, .ref 23), (1, .int (nI k)), (2, .int (nI w)), (3, .int (nI (vh V (8 * vnm V k + tbu T k))))], [.int ((nI 3) * (nI (vho V k))), .int (nI (brn T V k))], (pt S 27 k (nI (brn T V k))))) rfl ?_
      refine x_top (v' := nI (3 * (vho V k))) (pk_mul _ _) ?_
      refine x_icmpN_le 76 rfl rfl (by omega) (by omega) (fun h64 => ?_) (fun h64 => ?_)
      · refine run_ok 4 (c' := (82, [(0, .ref 23), (1, .int (nI k)), (2, .int (nI w)), (3, .int (nI (vh V (8 * vnm V k + tbu T k))))], [.int (nI k), .ref 29, .int (nI k), .ref 29], (pt S 27 k (nI (brn T V k))))) rfl ?_
        refine x_iaN (nI (ls k)) rfl rfl (by decide) (by omega) (h29 k (by omega)) ?_
        refine run_ok 2 (c' := (85, [(0, .ref 23), (1, .int (nI k)), (2, .int (nI w)), (3, .int (nI (vh V (8 * vnm V k + tbu T k))))], [.int ((nI (ls k)) + (nI 1)), .int (nI k), .ref 29], (pt S 27 k (nI (brn T V k))))) rfl ?_
        refine x_top (v' := nI ((ls k) + 1)) (nI_add _ _) ?_
        refine x_isN rfl rfl (by decide) (by omega) ?_
        refine x_ret (r := none) rfl rfl trivial ?_ rfl
        have hb := bea_n (T := T) (w := w) (V := V) (k := k) (by omega)
        refine ⟨rfl, ?_, (fr.rf.pt (by decide)).pt (by decide), rfl⟩
        rw [hb, if_pos (by exact h1)]
        exact ⟨h24, h25, h26, h27.put, h28, (h29.put : rh (pt S 29 k (nI (ls k + 1))) 29 (tnb T) _), hsr, g9, g10, g11, htl⟩
      · refine run_ok 3 (c' := (70, [(0, .ref 23), (1, .int (nI k)), (2, .int (nI w)), (3, .int (nI (vh V (8 * vnm V k + tbu T k))))], [.int (nI w), .int (nI k), .ref 23], (pt S 27 k (nI (brn T V k))))) rfl ?_
        have hb := bea_s (T := T) (w := w) (V := V) (k := k) (Or.inl (by omega))
        refine x_callV [.int (nI k), .int (nI w)] rfl cv_V_sink.1 lk_5_125 cv_V_sink.2.1 cv_V_sink.2.2.1 rfl cv_V_sink.2.2.2.1 rfl rfl (Nat.le_of_ble_eq_true rfl) (by decide) cv_V_sink.2.2.2.2 (c_sink5 (pt S 27 k (nI (brn T V k))) T (bre T V k) ls k w hto ⟨h24, h25, h26, h27.put, h28, h29, hsr, g9, g10, g11, htl⟩ hh9 hfw hk h1 q1.2 hw) ?_
        rintro r u ⟨hr, hCu, hfu, h2u⟩
        rw [hr]
        clear hr r
        refine run_ok 1 (c' := (86, [(0, .ref 23), (1, .int (nI k)), (2, .int (nI w)), (3, .int (nI (vh V (8 * vnm V k + tbu T k))))], [], u)) rfl ?_
        refine x_ret (r := none) rfl rfl trivial ?_ rfl
        refine ⟨rfl, ?_, (fr.rf.pt (by decide)).tr hfu, h2u⟩
        rw [hb, if_neg (by show ¬ upn (vis V) k 2 k = 1; rw [upn_s]; decide)]
        exact hCu
  · refine run_ok 2 (c' := (34, [(0, .ref 23), (1, .int (nI k)), (2, .int (nI w)), (3, .int (nI (vh V (8 * vnm V k + tbu T k))))], [.int (nI 2), .int (nI (vh V (8 * vnm V k + tbu T k))), .int (nI (vgr V k)), .int (nI k), .ref 27], S)) rfl ?_
    refine x_idiv rfl (by decide) ?_
    refine x_top (v' := nI ((vh V (8 * vnm V k + tbu T k)) / 2)) (pk_div (by omega) (by omega) (by omega)) ?_
    refine run_ok 2 (c' := (40, [(0, .ref 23), (1, .int (nI k)), (2, .int (nI w)), (3, .int (nI (vh V (8 * vnm V k + tbu T k))))], [.int ((nI (vgr V k)) + (nI ((vh V (8 * vnm V k + tbu T k)) / 2))), .int (nI k), .ref 27], S)) rfl ?_
    refine x_top (v' := nI ((vgr V k) + ((vh V (8 * vnm V k + tbu T k)) / 2))) (nI_add _ _) ?_
    refine x_top (v' := nI (brn T V k)) (by unfold brn; rw [if_pos h29x]) ?_
    refine x_isN rfl rfl (by decide) (by omega) ?_
    refine run_ok 3 (c' := (46, [(0, .ref 23), (1, .int (nI k)), (2, .int (nI w)), (3, .int (nI (vh V (8 * vnm V k + tbu T k))))], [.int (nI k), .ref 28], (pt S 27 k (nI (brn T V k))))) rfl ?_
    refine x_iaN (nI (vho V k)) rfl rfl (by decide) (by omega) (h28 k (by omega)) ?_
    refine x_ifN_eq 67 rfl rfl (by omega) (fun h47 => ?_) (fun h47 => ?_)
    · refine run_ok 3 (c' := (70, [(0, .ref 23), (1, .int (nI k)), (2, .int (nI w)), (3, .int (nI (vh V (8 * vnm V k + tbu T k))))], [.int (nI w), .int (nI k), .ref 23], (pt S 27 k (nI (brn T V k))))) rfl ?_
      have hb := bea_s (T := T) (w := w) (V := V) (k := k) (Or.inr h47)
      refine x_callV [.int (nI k), .int (nI w)] rfl cv_V_sink.1 lk_5_125 cv_V_sink.2.1 cv_V_sink.2.2.1 rfl cv_V_sink.2.2.2.1 rfl rfl (Nat.le_of_ble_eq_true rfl) (by decide) cv_V_sink.2.2.2.2 (c_sink5 (pt S 27 k (nI (brn T V k))) T (bre T V k) ls k w hto ⟨h24, h25, h26, h27.put, h28, h29, hsr, g9, g10, g11, htl⟩ hh9 hfw hk h1 q1.2 hw) ?_
      rintro r u ⟨hr, hCu, hfu, h2u⟩
      rw [hr]
      clear hr r
      refine run_ok 1 (c' := (86, [(0, .ref 23), (1, .int (nI k)), (2, .int (nI w)), (3, .int (nI (vh V (8 * vnm V k + tbu T k))))], [], u)) rfl ?_
      refine x_ret (r := none) rfl rfl trivial ?_ rfl
      refine ⟨rfl, ?_, (fr.rf.pt (by decide)).tr hfu, h2u⟩
      rw [hb, if_neg (by show ¬ upn (vis V) k 2 k = 1; rw [upn_s]; decide)]
      exact hCu
    · refine run_ok 3 (c' := (55, [(0, .ref 23), (1, .int (nI k)), (2, .int (nI w)), (3, .int (nI (vh V (8 * vnm V k + tbu T k))))], [.int (nI k), .ref 27], (pt S 27 k (nI (brn T V k))))) rfl ?_
      refine x_iaN (nI (brn T V k)) rfl rfl (by decide) (by omega) (upd_s _ _ _) ?_
      refine run_ok 4 (c' := (62, [(0, .ref 23), (1, .int (nI k)), (2, .int (nI w)), (3, .int (nI (vh V (8 * vnm V k + tbu T k))))], [.int (nI k), .ref 28, .int (nI 3), .int (nI (brn T V k))], (pt S 27 k (nI (brn T V k))))) rfl ?_
      refine x_iaN (nI (vho V k)) rfl rfl (by decide) (by omega) (h28 k (by omega)) ?_
      refine run_ok 1 (c' := (64, [(0, .ref 23), (1, .int (nI k)), (2, .int (nI w)), (3, .int (nI (vh V (8 * vnm V k + tbu T k))))], [.int ((nI 3) * (nI (vho V k))), .int (nI (brn T V k))], (pt S 27 k (nI (brn T V k))))) rfl ?_
      refine x_top (v' := nI (3 * (vho V k))) (pk_mul _ _) ?_
      refine x_icmpN_le 76 rfl rfl (by omega) (by omega) (fun h64 => ?_) (fun h64 => ?_)
      · refine run_ok 4 (c' := (82, [(0, .ref 23), (1, .int (nI k)), (2, .int (nI w)), (3, .int (nI (vh V (8 * vnm V k + tbu T k))))], [.int (nI k), .ref 29, .int (nI k), .ref 29], (pt S 27 k (nI (brn T V k))))) rfl ?_
        refine x_iaN (nI (ls k)) rfl rfl (by decide) (by omega) (h29 k (by omega)) ?_
        refine run_ok 2 (c' := (85, [(0, .ref 23), (1, .int (nI k)), (2, .int (nI w)), (3, .int (nI (vh V (8 * vnm V k + tbu T k))))], [.int ((nI (ls k)) + (nI 1)), .int (nI k), .ref 29], (pt S 27 k (nI (brn T V k))))) rfl ?_
        refine x_top (v' := nI ((ls k) + 1)) (nI_add _ _) ?_
        refine x_isN rfl rfl (by decide) (by omega) ?_
        refine x_ret (r := none) rfl rfl trivial ?_ rfl
        have hb := bea_n (T := T) (w := w) (V := V) (k := k) (by omega)
        refine ⟨rfl, ?_, (fr.rf.pt (by decide)).pt (by decide), rfl⟩
        rw [hb, if_pos (by exact h1)]
        exact ⟨h24, h25, h26, h27.put, h28, (h29.put : rh (pt S 29 k (nI (ls k + 1))) 29 (tnb T) _), hsr, g9, g10, g11, htl⟩
      · refine run_ok 3 (c' := (70, [(0, .ref 23), (1, .int (nI k)), (2, .int (nI w)), (3, .int (nI (vh V (8 * vnm V k + tbu T k))))], [.int (nI w), .int (nI k), .ref 23], (pt S 27 k (nI (brn T V k))))) rfl ?_
        have hb := bea_s (T := T) (w := w) (V := V) (k := k) (Or.inl (by omega))
        refine x_callV [.int (nI k), .int (nI w)] rfl cv_V_sink.1 lk_5_125 cv_V_sink.2.1 cv_V_sink.2.2.1 rfl cv_V_sink.2.2.2.1 rfl rfl (Nat.le_of_ble_eq_true rfl) (by decide) cv_V_sink.2.2.2.2 (c_sink5 (pt S 27 k (nI (brn T V k))) T (bre T V k) ls k w hto ⟨h24, h25, h26, h27.put, h28, h29, hsr, g9, g10, g11, htl⟩ hh9 hfw hk h1 q1.2 hw) ?_
        rintro r u ⟨hr, hCu, hfu, h2u⟩
        rw [hr]
        clear hr r
        refine run_ok 1 (c' := (86, [(0, .ref 23), (1, .int (nI k)), (2, .int (nI w)), (3, .int (nI (vh V (8 * vnm V k + tbu T k))))], [], u)) rfl ?_
        refine x_ret (r := none) rfl rfl trivial ?_ rfl
        refine ⟨rfl, ?_, (fr.rf.pt (by decide)).tr hfu, h2u⟩
        rw [hb, if_neg (by show ¬ upn (vis V) k 2 k = 1; rw [upn_s]; decide)]
        exact hCu

set_option maxHeartbeats 2000000 in
theorem c_bear14 (S : ST) (T : TD) (V : VS) (ls : Nat → Nat) (k w : Nat) (hT : TR 14 T S) (hto : tok T) (hC : CR 14 T V ls S) (hV : vk T V) (hk : k < tnb T) (h1 : vis V k = 1) (hw : w < 24) : EX me_V_bear 1 [.ref 23, .int (nI k), .int (nI w)] S (fun r u => r = none ∧ CR 14 T (bea T w V k) (if vis (bea T w V k) k = 1 then upn ls k (ls k + 1) else ls) u ∧ fr VL S u ∧ u.2 = S.2) := by
  refine EX.of mok_V_bear (Nat.le_of_ble_eq_true rfl) ?_
  obtain ⟨n8, n9, hbt, het, hht, hlo⟩ := id hto
  obtain ⟨t1, t2, t3, t4, t5, t6, t7, t8, t9, t10, t11⟩ := id hT
  obtain ⟨h24, h25, h26, h27, h28, h29, hsr, g9, g10, g11, htl⟩ := id hC
  obtain ⟨hh9, hv3, hb9, hfw, hfb⟩ := id hV
  have q1 := (hv3 k (by omega)).2.2 h1
  have q2 := (hbt k hk).2.1
  have q3 := hh9 (8 * vnm V k + tbu T k) (by omega)
  obtain ⟨e30, e31⟩ := hsr k (by omega) h1
  have q4 := hb9 k hk
  have q5 := q4.2.2 (by omega)
  have q6 := (hbt k hk).1
  have q7 := brn_le (T := T) (V := V) (k := k) q5 q3
  refine run_ok 5 (c' := (9, [(0, .ref 23), (1, .int (nI k)), (2, .int (nI w))], [.int (nI k), .ref 30, .ref 24], S)) rfl ?_
  refine x_iaN (nI (8 * vnm V k + tbu T k)) rfl rfl (by decide) (by omega) e30 ?_
  refine x_iaN (nI (vh V (8 * vnm V k + tbu T k))) rfl rfl (by decide) (by omega) (h24 (8 * vnm V k + tbu T k) (by omega)) ?_
  refine run_ok 5 (c' := (18, [(0, .ref 23), (1, .int (nI k)), (2, .int (nI w)), (3, .int (nI (vh V (8 * vnm V k + tbu T k))))], [.int (nI k), .ref 27, .int (nI k), .ref 27], S)) rfl ?_
  refine x_iaN (nI (vgr V k)) rfl rfl (by decide) (by omega) (h27 k (by omega)) ?_
  refine run_ok 1 (c' := (20, [(0, .ref 23), (1, .int (nI k)), (2, .int (nI w)), (3, .int (nI (vh V (8 * vnm V k + tbu T k))))], [.ref 23, .int (nI (vgr V k)), .int (nI k), .ref 27], S)) rfl ?_
  refine x_gett (t := 14) rfl rfl htl ?_
  refine run_ok 2 (c' := (27, [(0, .ref 23), (1, .int (nI k)), (2, .int (nI w)), (3, .int (nI (vh V (8 * vnm V k + tbu T k))))], [.int (nI k), .ref 16, .int (nI (vgr V k)), .int (nI k), .ref 27], S)) rfl ?_
  refine x_iaN (nI (tso T k)) rfl rfl (by decide) (by omega) (t2 k (by omega)) ?_
  refine run_ok 1 (c' := (29, [(0, .ref 23), (1, .int (nI k)), (2, .int (nI w)), (3, .int (nI (vh V (8 * vnm V k + tbu T k))))], [.int (nI 1), .int (nI (tso T k)), .int (nI (vgr V k)), .int (nI k), .ref 27], S)) rfl ?_
  refine x_icmpN_ne 38 rfl rfl (by omega) (by omega) (fun h29x => ?_) (fun h29x => ?_)
  · refine run_ok 2 (c' := (40, [(0, .ref 23), (1, .int (nI k)), (2, .int (nI w)), (3, .int (nI (vh V (8 * vnm V k + tbu T k))))], [.int ((nI (vgr V k)) + (nI (vh V (8 * vnm V k + tbu T k)))), .int (nI k), .ref 27], S)) rfl ?_
    refine x_top (v' := nI ((vgr V k) + (vh V (8 * vnm V k + tbu T k)))) (nI_add _ _) ?_
    refine x_top (v' := nI (brn T V k)) (by unfold brn; rw [if_neg h29x]) ?_
    refine x_isN rfl rfl (by decide) (by omega) ?_
    refine run_ok 3 (c' := (46, [(0, .ref 23), (1, .int (nI k)), (2, .int (nI w)), (3, .int (nI (vh V (8 * vnm V k + tbu T k))))], [.int (nI k), .ref 28], (pt S 27 k (nI (brn T V k))))) rfl ?_
    refine x_iaN (nI (vho V k)) rfl rfl (by decide) (by omega) (h28 k (by omega)) ?_
    refine x_ifN_eq 67 rfl rfl (by omega) (fun h47 => ?_) (fun h47 => ?_)
    · refine run_ok 3 (c' := (70, [(0, .ref 23), (1, .int (nI k)), (2, .int (nI w)), (3, .int (nI (vh V (8 * vnm V k + tbu T k))))], [.int (nI w), .int (nI k), .ref 23], (pt S 27 k (nI (brn T V k))))) rfl ?_
      have hb := bea_s (T := T) (w := w) (V := V) (k := k) (Or.inr h47)
      refine x_callV [.int (nI k), .int (nI w)] rfl cv_V_sink.1 lk_5_125 cv_V_sink.2.1 cv_V_sink.2.2.1 rfl cv_V_sink.2.2.2.1 rfl rfl (Nat.le_of_ble_eq_true rfl) (by decide) cv_V_sink.2.2.2.2 (c_sink14 (pt S 27 k (nI (brn T V k))) T (bre T V k) ls k w hto ⟨h24, h25, h26, h27.put, h28, h29, hsr, g9, g10, g11, htl⟩ hh9 hfw hk h1 q1.2 hw) ?_
      rintro r u ⟨hr, hCu, hfu, h2u⟩
      rw [hr]
      clear hr r
      refine run_ok 1 (c' := (86, [(0, .ref 23), (1, .int (nI k)), (2, .int (nI w)), (3, .int (nI (vh V (8 * vnm V k + tbu T k))))], [], u)) rfl ?_
      refine x_ret (r := none) rfl rfl trivial ?_ rfl
      refine ⟨rfl, ?_, (fr.rf.pt (by decide)).tr hfu, h2u⟩
      rw [hb, if_neg (by show ¬ upn (vis V) k 2 k = 1; rw [upn_s]; decide)]
      exact hCu
    · refine run_ok 3 (c' := (55, [(0, .ref 23), (1, .int (nI k)), (2, .int (nI w)), (3, .int (nI (vh V (8 * vnm V k + tbu T k))))], [.int (nI k), .ref 27], (pt S 27 k (nI (brn T V k))))) rfl ?_
      refine x_iaN (nI (brn T V k)) rfl rfl (by decide) (by omega) (upd_s _ _ _) ?_
      refine run_ok 4 (c' := (62, [(0, .ref 23), (1, .int (nI k)), (2, .int (nI w)), (3, .int (nI (vh V (8 * vnm V k + tbu T k))))], [.int (nI k), .ref 28, .int (nI 3), .int (nI (brn T V k))], (pt S 27 k (nI (brn T V k))))) rfl ?_
      refine x_iaN (nI (vho V k)) rfl rfl (by decide) (by omega) (h28 k (by omega)) ?_
      refine run_ok 1 (c' := (64, [(0, .ref 23), (1, .int (nI k)), (2, .int (nI w)), (3, .int (nI (vh V (8 * vnm V k + tbu T k))))], [.int ((nI 3) * (nI (vho V k))), .int (nI (brn T V k))], (pt S 27 k (nI (brn T V k))))) rfl ?_
      refine x_top (v' := nI (3 * (vho V k))) (pk_mul _ _) ?_
      refine x_icmpN_le 76 rfl rfl (by omega) (by omega) (fun h64 => ?_) (fun h64 => ?_)
      · refine run_ok 4 (c' := (82, [(0, .ref 23), (1, .int (nI k)), (2, .int (nI w)), (3, .int (nI (vh V (8 * vnm V k + tbu T k))))], [.int (nI k), .ref 29, .int (nI k), .ref 29], (pt S 27 k (nI (brn T V k))))) rfl ?_
        refine x_iaN (nI (ls k)) rfl rfl (by decide) (by omega) (h29 k (by omega)) ?_
        refine run_ok 2 (c' := (85, [(0, .ref 23), (1, .int (nI k)), (2, .int (nI w)), (3, .int (nI (vh V (8 * vnm V k + tbu T k))))], [.int ((nI (ls k)) + (nI 1)), .int (nI k), .ref 29], (pt S 27 k (nI (brn T V k))))) rfl ?_
        refine x_top (v' := nI ((ls k) + 1)) (nI_add _ _) ?_
        refine x_isN rfl rfl (by decide) (by omega) ?_
        refine x_ret (r := none) rfl rfl trivial ?_ rfl
        have hb := bea_n (T := T) (w := w) (V := V) (k := k) (by omega)
        refine ⟨rfl, ?_, (fr.rf.pt (by decide)).pt (by decide), rfl⟩
        rw [hb, if_pos (by exact h1)]
        exact ⟨h24, h25, h26, h27.put, h28, (h29.put : rh (pt S 29 k (nI (ls k + 1))) 29 (tnb T) _), hsr, g9, g10, g11, htl⟩
      · refine run_ok 3 (c' := (70, [(0, .ref 23), (1, .int (nI k)), (2, .int (nI w)), (3, .int (nI (vh V (8 * vnm V k + tbu T k))))], [.int (nI w), .int (nI k), .ref 23], (pt S 27 k (nI (brn T V k))))) rfl ?_
        have hb := bea_s (T := T) (w := w) (V := V) (k := k) (Or.inl (by omega))
        refine x_callV [.int (nI k), .int (nI w)] rfl cv_V_sink.1 lk_5_125 cv_V_sink.2.1 cv_V_sink.2.2.1 rfl cv_V_sink.2.2.2.1 rfl rfl (Nat.le_of_ble_eq_true rfl) (by decide) cv_V_sink.2.2.2.2 (c_sink14 (pt S 27 k (nI (brn T V k))) T (bre T V k) ls k w hto ⟨h24, h25, h26, h27.put, h28, h29, hsr, g9, g10, g11, htl⟩ hh9 hfw hk h1 q1.2 hw) ?_
        rintro r u ⟨hr, hCu, hfu, h2u⟩
        rw [hr]
        clear hr r
        refine run_ok 1 (c' := (86, [(0, .ref 23), (1, .int (nI k)), (2, .int (nI w)), (3, .int (nI (vh V (8 * vnm V k + tbu T k))))], [], u)) rfl ?_
        refine x_ret (r := none) rfl rfl trivial ?_ rfl
        refine ⟨rfl, ?_, (fr.rf.pt (by decide)).tr hfu, h2u⟩
        rw [hb, if_neg (by show ¬ upn (vis V) k 2 k = 1; rw [upn_s]; decide)]
        exact hCu
  · refine run_ok 2 (c' := (34, [(0, .ref 23), (1, .int (nI k)), (2, .int (nI w)), (3, .int (nI (vh V (8 * vnm V k + tbu T k))))], [.int (nI 2), .int (nI (vh V (8 * vnm V k + tbu T k))), .int (nI (vgr V k)), .int (nI k), .ref 27], S)) rfl ?_
    refine x_idiv rfl (by decide) ?_
    refine x_top (v' := nI ((vh V (8 * vnm V k + tbu T k)) / 2)) (pk_div (by omega) (by omega) (by omega)) ?_
    refine run_ok 2 (c' := (40, [(0, .ref 23), (1, .int (nI k)), (2, .int (nI w)), (3, .int (nI (vh V (8 * vnm V k + tbu T k))))], [.int ((nI (vgr V k)) + (nI ((vh V (8 * vnm V k + tbu T k)) / 2))), .int (nI k), .ref 27], S)) rfl ?_
    refine x_top (v' := nI ((vgr V k) + ((vh V (8 * vnm V k + tbu T k)) / 2))) (nI_add _ _) ?_
    refine x_top (v' := nI (brn T V k)) (by unfold brn; rw [if_pos h29x]) ?_
    refine x_isN rfl rfl (by decide) (by omega) ?_
    refine run_ok 3 (c' := (46, [(0, .ref 23), (1, .int (nI k)), (2, .int (nI w)), (3, .int (nI (vh V (8 * vnm V k + tbu T k))))], [.int (nI k), .ref 28], (pt S 27 k (nI (brn T V k))))) rfl ?_
    refine x_iaN (nI (vho V k)) rfl rfl (by decide) (by omega) (h28 k (by omega)) ?_
    refine x_ifN_eq 67 rfl rfl (by omega) (fun h47 => ?_) (fun h47 => ?_)
    · refine run_ok 3 (c' := (70, [(0, .ref 23), (1, .int (nI k)), (2, .int (nI w)), (3, .int (nI (vh V (8 * vnm V k + tbu T k))))], [.int (nI w), .int (nI k), .ref 23], (pt S 27 k (nI (brn T V k))))) rfl ?_
      have hb := bea_s (T := T) (w := w) (V := V) (k := k) (Or.inr h47)
      refine x_callV [.int (nI k), .int (nI w)] rfl cv_V_sink.1 lk_5_125 cv_V_sink.2.1 cv_V_sink.2.2.1 rfl cv_V_sink.2.2.2.1 rfl rfl (Nat.le_of_ble_eq_true rfl) (by decide) cv_V_sink.2.2.2.2 (c_sink14 (pt S 27 k (nI (brn T V k))) T (bre T V k) ls k w hto ⟨h24, h25, h26, h27.put, h28, h29, hsr, g9, g10, g11, htl⟩ hh9 hfw hk h1 q1.2 hw) ?_
      rintro r u ⟨hr, hCu, hfu, h2u⟩
      rw [hr]
      clear hr r
      refine run_ok 1 (c' := (86, [(0, .ref 23), (1, .int (nI k)), (2, .int (nI w)), (3, .int (nI (vh V (8 * vnm V k + tbu T k))))], [], u)) rfl ?_
      refine x_ret (r := none) rfl rfl trivial ?_ rfl
      refine ⟨rfl, ?_, (fr.rf.pt (by decide)).tr hfu, h2u⟩
      rw [hb, if_neg (by show ¬ upn (vis V) k 2 k = 1; rw [upn_s]; decide)]
      exact hCu
    · refine run_ok 3 (c' := (55, [(0, .ref 23), (1, .int (nI k)), (2, .int (nI w)), (3, .int (nI (vh V (8 * vnm V k + tbu T k))))], [.int (nI k), .ref 27], (pt S 27 k (nI (brn T V k))))) rfl ?_
      refine x_iaN (nI (brn T V k)) rfl rfl (by decide) (by omega) (upd_s _ _ _) ?_
      refine run_ok 4 (c' := (62, [(0, .ref 23), (1, .int (nI k)), (2, .int (nI w)), (3, .int (nI (vh V (8 * vnm V k + tbu T k))))], [.int (nI k), .ref 28, .int (nI 3), .int (nI (brn T V k))], (pt S 27 k (nI (brn T V k))))) rfl ?_
      refine x_iaN (nI (vho V k)) rfl rfl (by decide) (by omega) (h28 k (by omega)) ?_
      refine run_ok 1 (c' := (64, [(0, .ref 23), (1, .int (nI k)), (2, .int (nI w)), (3, .int (nI (vh V (8 * vnm V k + tbu T k))))], [.int ((nI 3) * (nI (vho V k))), .int (nI (brn T V k))], (pt S 27 k (nI (brn T V k))))) rfl ?_
      refine x_top (v' := nI (3 * (vho V k))) (pk_mul _ _) ?_
      refine x_icmpN_le 76 rfl rfl (by omega) (by omega) (fun h64 => ?_) (fun h64 => ?_)
      · refine run_ok 4 (c' := (82, [(0, .ref 23), (1, .int (nI k)), (2, .int (nI w)), (3, .int (nI (vh V (8 * vnm V k + tbu T k))))], [.int (nI k), .ref 29, .int (nI k), .ref 29], (pt S 27 k (nI (brn T V k))))) rfl ?_
        refine x_iaN (nI (ls k)) rfl rfl (by decide) (by omega) (h29 k (by omega)) ?_
        refine run_ok 2 (c' := (85, [(0, .ref 23), (1, .int (nI k)), (2, .int (nI w)), (3, .int (nI (vh V (8 * vnm V k + tbu T k))))], [.int ((nI (ls k)) + (nI 1)), .int (nI k), .ref 29], (pt S 27 k (nI (brn T V k))))) rfl ?_
        refine x_top (v' := nI ((ls k) + 1)) (nI_add _ _) ?_
        refine x_isN rfl rfl (by decide) (by omega) ?_
        refine x_ret (r := none) rfl rfl trivial ?_ rfl
        have hb := bea_n (T := T) (w := w) (V := V) (k := k) (by omega)
        refine ⟨rfl, ?_, (fr.rf.pt (by decide)).pt (by decide), rfl⟩
        rw [hb, if_pos (by exact h1)]
        exact ⟨h24, h25, h26, h27.put, h28, (h29.put : rh (pt S 29 k (nI (ls k + 1))) 29 (tnb T) _), hsr, g9, g10, g11, htl⟩
      · refine run_ok 3 (c' := (70, [(0, .ref 23), (1, .int (nI k)), (2, .int (nI w)), (3, .int (nI (vh V (8 * vnm V k + tbu T k))))], [.int (nI w), .int (nI k), .ref 23], (pt S 27 k (nI (brn T V k))))) rfl ?_
        have hb := bea_s (T := T) (w := w) (V := V) (k := k) (Or.inl (by omega))
        refine x_callV [.int (nI k), .int (nI w)] rfl cv_V_sink.1 lk_5_125 cv_V_sink.2.1 cv_V_sink.2.2.1 rfl cv_V_sink.2.2.2.1 rfl rfl (Nat.le_of_ble_eq_true rfl) (by decide) cv_V_sink.2.2.2.2 (c_sink14 (pt S 27 k (nI (brn T V k))) T (bre T V k) ls k w hto ⟨h24, h25, h26, h27.put, h28, h29, hsr, g9, g10, g11, htl⟩ hh9 hfw hk h1 q1.2 hw) ?_
        rintro r u ⟨hr, hCu, hfu, h2u⟩
        rw [hr]
        clear hr r
        refine run_ok 1 (c' := (86, [(0, .ref 23), (1, .int (nI k)), (2, .int (nI w)), (3, .int (nI (vh V (8 * vnm V k + tbu T k))))], [], u)) rfl ?_
        refine x_ret (r := none) rfl rfl trivial ?_ rfl
        refine ⟨rfl, ?_, (fr.rf.pt (by decide)).tr hfu, h2u⟩
        rw [hb, if_neg (by show ¬ upn (vis V) k 2 k = 1; rw [upn_s]; decide)]
        exact hCu

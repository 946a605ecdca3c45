/-! the law: its cases, its loop -/
theorem lw_0 {L : Nat} {xs : Nat → Int32} {i : Nat} (hL : L ≤ 3072) (hi : i + 6 ≤ L) {u : ST} (hI : INV u) (K : ∀ w, INV w → BX me_L_law 12 (some (L, xs)) QL0 (1319, [(0, .ref 999), (1, .ref 0), (2, .ref 48), (3, .int (nI i))], [], w)) : BX me_L_law 12 (some (L, xs)) QL0 (196, [(0, .ref 999), (1, .ref 0), (2, .ref 48), (3, .int (nI i))], [], u) := by
  obtain ⟨z, D1, Q1, hD1, c1, kk⟩ := pr_type u hI (xs (i + 1)) (xs (i + 2))
  refine run_ok 5 (c' := (201, [(0, .ref 999), (1, .ref 0), (2, .ref 48), (3, .int (nI i))], [.int ((nI i) + (nI 1)), .ref 999, .ref 0], u)) rfl ?_
  refine x_top (v' := nI (i + 1)) (nI_add _ _) ?_
  refine x_sldN rfl (by omega) (by omega) ?_
  refine run_ok 4 (c' := (206, [(0, .ref 999), (1, .ref 0), (2, .ref 48), (3, .int (nI i))], [.int ((nI i) + (nI 2)), .ref 999, .int (xs (i + 1)), .ref 0], u)) rfl ?_
  refine x_top (v' := nI (i + 2)) (nI_add _ _) ?_
  refine x_sldN rfl (by omega) (by omega) ?_
  refine x_callV [.int (xs (i + 1)), .int (xs (i + 2))] rfl cv_N_type.1 lk_8_13 cv_N_type.2.1 cv_N_type.2.2.1 rfl cv_N_type.2.2.2.1 rfl rfl (Nat.le_of_ble_eq_true rfl) (show D1 + 1 ≤ 12 by omega) cv_N_type.2.2.2.2 c1 ?_
  rintro r v hv
  obtain ⟨hr, D2, Q2, hD2, c2, kk2⟩ := kk r v hv
  rw [hr]
  refine run_ok 5 (c' := (215, [(0, .ref 999), (1, .ref 0), (2, .ref 48), (3, .int (nI i))], [.int ((nI i) + (nI 1)), .ref 999, .ref 48, .int z], v)) rfl ?_
  refine x_top (v' := nI (i + 1)) (nI_add _ _) ?_
  refine x_sldN rfl (by omega) (by omega) ?_
  refine run_ok 4 (c' := (220, [(0, .ref 999), (1, .ref 0), (2, .ref 48), (3, .int (nI i))], [.int ((nI i) + (nI 2)), .ref 999, .int (xs (i + 1)), .ref 48, .int z], v)) rfl ?_
  refine x_top (v' := nI (i + 2)) (nI_add _ _) ?_
  refine x_sldN rfl (by omega) (by omega) ?_
  refine x_callV [.int (xs (i + 1)), .int (xs (i + 2))] rfl cv_R_type.1 lk_8_17 cv_R_type.2.1 cv_R_type.2.2.1 rfl cv_R_type.2.2.2.1 rfl rfl (Nat.le_of_ble_eq_true rfl) (show D2 + 1 ≤ 12 by omega) cv_R_type.2.2.2.2 c2 ?_
  rintro r w hw
  obtain ⟨hr, hJ⟩ := kk2 r w hw
  rw [hr]
  refine x_icmp_eq 1319 rfl rfl (fun h224 => ?_) (fun hn => absurd rfl hn)
  exact K w hJ
theorem lw_1 {L : Nat} {xs : Nat → Int32} {i : Nat} (hL : L ≤ 3072) (hi : i + 6 ≤ L) {u : ST} (hI : INV u) (K : ∀ w, INV w → BX me_L_law 12 (some (L, xs)) QL0 (1319, [(0, .ref 999), (1, .ref 0), (2, .ref 48), (3, .int (nI i))], [], w)) : BX me_L_law 12 (some (L, xs)) QL0 (229, [(0, .ref 999), (1, .ref 0), (2, .ref 48), (3, .int (nI i))], [], u) := by
  obtain ⟨z, D1, Q1, hD1, c1, kk⟩ := pr_wipe u hI (xs (i + 1))
  refine run_ok 5 (c' := (234, [(0, .ref 999), (1, .ref 0), (2, .ref 48), (3, .int (nI i))], [.int ((nI i) + (nI 1)), .ref 999, .ref 0], u)) rfl ?_
  refine x_top (v' := nI (i + 1)) (nI_add _ _) ?_
  refine x_sldN rfl (by omega) (by omega) ?_
  refine x_callV [.int (xs (i + 1))] rfl cv_N_wipe.1 lk_8_18 cv_N_wipe.2.1 cv_N_wipe.2.2.1 rfl cv_N_wipe.2.2.2.1 rfl rfl (Nat.le_of_ble_eq_true rfl) (show D1 + 1 ≤ 12 by omega) cv_N_wipe.2.2.2.2 c1 ?_
  rintro r v hv
  obtain ⟨hr, D2, Q2, hD2, c2, kk2⟩ := kk r v hv
  rw [hr]
  refine run_ok 5 (c' := (243, [(0, .ref 999), (1, .ref 0), (2, .ref 48), (3, .int (nI i))], [.int ((nI i) + (nI 1)), .ref 999, .ref 48, .int z], v)) rfl ?_
  refine x_top (v' := nI (i + 1)) (nI_add _ _) ?_
  refine x_sldN rfl (by omega) (by omega) ?_
  refine x_callV [.int (xs (i + 1))] rfl cv_R_wipe.1 lk_8_22 cv_R_wipe.2.1 cv_R_wipe.2.2.1 rfl cv_R_wipe.2.2.2.1 rfl rfl (Nat.le_of_ble_eq_true rfl) (show D2 + 1 ≤ 12 by omega) cv_R_wipe.2.2.2.2 c2 ?_
  rintro r w hw
  obtain ⟨hr, hJ⟩ := kk2 r w hw
  rw [hr]
  refine x_icmp_eq 1319 rfl rfl (fun h247 => ?_) (fun hn => absurd rfl hn)
  exact K w hJ
theorem lw_2 {L : Nat} {xs : Nat → Int32} {i : Nat} (hL : L ≤ 3072) (hi : i + 6 ≤ L) {u : ST} (hI : INV u) (K : ∀ w, INV w → BX me_L_law 12 (some (L, xs)) QL0 (1319, [(0, .ref 999), (1, .ref 0), (2, .ref 48), (3, .int (nI i))], [], w)) : BX me_L_law 12 (some (L, xs)) QL0 (252, [(0, .ref 999), (1, .ref 0), (2, .ref 48), (3, .int (nI i))], [], u) := by
  obtain ⟨z, D1, Q1, hD1, c1, kk⟩ := pr_undo u hI (xs (i + 1))
  refine run_ok 5 (c' := (257, [(0, .ref 999), (1, .ref 0), (2, .ref 48), (3, .int (nI i))], [.int ((nI i) + (nI 1)), .ref 999, .ref 0], u)) rfl ?_
  refine x_top (v' := nI (i + 1)) (nI_add _ _) ?_
  refine x_sldN rfl (by omega) (by omega) ?_
  refine x_callV [.int (xs (i + 1))] rfl cv_N_undo.1 lk_8_23 cv_N_undo.2.1 cv_N_undo.2.2.1 rfl cv_N_undo.2.2.2.1 rfl rfl (Nat.le_of_ble_eq_true rfl) (show D1 + 1 ≤ 12 by omega) cv_N_undo.2.2.2.2 c1 ?_
  rintro r v hv
  obtain ⟨hr, D2, Q2, hD2, c2, kk2⟩ := kk r v hv
  rw [hr]
  refine run_ok 5 (c' := (266, [(0, .ref 999), (1, .ref 0), (2, .ref 48), (3, .int (nI i))], [.int ((nI i) + (nI 1)), .ref 999, .ref 48, .int z], v)) rfl ?_
  refine x_top (v' := nI (i + 1)) (nI_add _ _) ?_
  refine x_sldN rfl (by omega) (by omega) ?_
  refine x_callV [.int (xs (i + 1))] rfl cv_R_undo.1 lk_8_26 cv_R_undo.2.1 cv_R_undo.2.2.1 rfl cv_R_undo.2.2.2.1 rfl rfl (Nat.le_of_ble_eq_true rfl) (show D2 + 1 ≤ 12 by omega) cv_R_undo.2.2.2.2 c2 ?_
  rintro r w hw
  obtain ⟨hr, hJ⟩ := kk2 r w hw
  rw [hr]
  refine x_icmp_eq 1319 rfl rfl (fun h270 => ?_) (fun hn => absurd rfl hn)
  exact K w hJ
theorem lw_3 {L : Nat} {xs : Nat → Int32} {i : Nat} (hL : L ≤ 3072) (hi : i + 6 ≤ L) {u : ST} (hI : INV u) (K : ∀ w, INV w → BX me_L_law 12 (some (L, xs)) QL0 (1319, [(0, .ref 999), (1, .ref 0), (2, .ref 48), (3, .int (nI i))], [], w)) : BX me_L_law 12 (some (L, xs)) QL0 (275, [(0, .ref 999), (1, .ref 0), (2, .ref 48), (3, .int (nI i))], [], u) := by
  obtain ⟨z, D1, Q1, hD1, c1, kk⟩ := pr_fault u hI (xs (i + 1))
  refine run_ok 5 (c' := (280, [(0, .ref 999), (1, .ref 0), (2, .ref 48), (3, .int (nI i))], [.int ((nI i) + (nI 1)), .ref 999, .ref 0], u)) rfl ?_
  refine x_top (v' := nI (i + 1)) (nI_add _ _) ?_
  refine x_sldN rfl (by omega) (by omega) ?_
  refine x_callV [.int (xs (i + 1))] rfl cv_N_fault.1 lk_8_27 cv_N_fault.2.1 cv_N_fault.2.2.1 rfl cv_N_fault.2.2.2.1 rfl rfl (Nat.le_of_ble_eq_true rfl) (show D1 + 1 ≤ 12 by omega) cv_N_fault.2.2.2.2 c1 ?_
  rintro r v hv
  obtain ⟨hr, D2, Q2, hD2, c2, kk2⟩ := kk r v hv
  rw [hr]
  refine run_ok 5 (c' := (289, [(0, .ref 999), (1, .ref 0), (2, .ref 48), (3, .int (nI i))], [.int ((nI i) + (nI 1)), .ref 999, .ref 48, .int z], v)) rfl ?_
  refine x_top (v' := nI (i + 1)) (nI_add _ _) ?_
  refine x_sldN rfl (by omega) (by omega) ?_
  refine x_callV [.int (xs (i + 1))] rfl cv_R_fault.1 lk_8_30 cv_R_fault.2.1 cv_R_fault.2.2.1 rfl cv_R_fault.2.2.2.1 rfl rfl (Nat.le_of_ble_eq_true rfl) (show D2 + 1 ≤ 12 by omega) cv_R_fault.2.2.2.2 c2 ?_
  rintro r w hw
  obtain ⟨hr, hJ⟩ := kk2 r w hw
  rw [hr]
  refine x_icmp_eq 1319 rfl rfl (fun h293 => ?_) (fun hn => absurd rfl hn)
  exact K w hJ
theorem lw_4 {L : Nat} {xs : Nat → Int32} {i : Nat} (hL : L ≤ 3072) (hi : i + 6 ≤ L) {u : ST} (hI : INV u) (K : ∀ w, INV w → BX me_L_law 12 (some (L, xs)) QL0 (1319, [(0, .ref 999), (1, .ref 0), (2, .ref 48), (3, .int (nI i))], [], w)) : BX me_L_law 12 (some (L, xs)) QL0 (298, [(0, .ref 999), (1, .ref 0), (2, .ref 48), (3, .int (nI i))], [], u) := by
  obtain ⟨z, D1, Q1, hD1, c1, kk⟩ := pr_told u hI (xs (i + 1)) (xs (i + 2))
  refine run_ok 5 (c' := (303, [(0, .ref 999), (1, .ref 0), (2, .ref 48), (3, .int (nI i))], [.int ((nI i) + (nI 1)), .ref 999, .ref 0], u)) rfl ?_
  refine x_top (v' := nI (i + 1)) (nI_add _ _) ?_
  refine x_sldN rfl (by omega) (by omega) ?_
  refine run_ok 4 (c' := (308, [(0, .ref 999), (1, .ref 0), (2, .ref 48), (3, .int (nI i))], [.int ((nI i) + (nI 2)), .ref 999, .int (xs (i + 1)), .ref 0], u)) rfl ?_
  refine x_top (v' := nI (i + 2)) (nI_add _ _) ?_
  refine x_sldN rfl (by omega) (by omega) ?_
  refine x_callV [.int (xs (i + 1)), .int (xs (i + 2))] rfl cv_N_told.1 lk_8_31 cv_N_told.2.1 cv_N_told.2.2.1 rfl cv_N_told.2.2.2.1 rfl rfl (Nat.le_of_ble_eq_true rfl) (show D1 + 1 ≤ 12 by omega) cv_N_told.2.2.2.2 c1 ?_
  rintro r v hv
  obtain ⟨hr, D2, Q2, hD2, c2, kk2⟩ := kk r v hv
  rw [hr]
  refine run_ok 5 (c' := (317, [(0, .ref 999), (1, .ref 0), (2, .ref 48), (3, .int (nI i))], [.int ((nI i) + (nI 1)), .ref 999, .ref 48, .int z], v)) rfl ?_
  refine x_top (v' := nI (i + 1)) (nI_add _ _) ?_
  refine x_sldN rfl (by omega) (by omega) ?_
  refine run_ok 4 (c' := (322, [(0, .ref 999), (1, .ref 0), (2, .ref 48), (3, .int (nI i))], [.int ((nI i) + (nI 2)), .ref 999, .int (xs (i + 1)), .ref 48, .int z], v)) rfl ?_
  refine x_top (v' := nI (i + 2)) (nI_add _ _) ?_
  refine x_sldN rfl (by omega) (by omega) ?_
  refine x_callV [.int (xs (i + 1)), .int (xs (i + 2))] rfl cv_R_told.1 lk_8_34 cv_R_told.2.1 cv_R_told.2.2.1 rfl cv_R_told.2.2.2.1 rfl rfl (Nat.le_of_ble_eq_true rfl) (show D2 + 1 ≤ 12 by omega) cv_R_told.2.2.2.2 c2 ?_
  rintro r w hw
  obtain ⟨hr, hJ⟩ := kk2 r w hw
  rw [hr]
  refine x_icmp_eq 1319 rfl rfl (fun h326 => ?_) (fun hn => absurd rfl hn)
  exact K w hJ
theorem lw_5 {L : Nat} {xs : Nat → Int32} {i : Nat} (hL : L ≤ 3072) (hi : i + 6 ≤ L) {u : ST} (hI : INV u) (K : ∀ w, INV w → BX me_L_law 12 (some (L, xs)) QL0 (1319, [(0, .ref 999), (1, .ref 0), (2, .ref 48), (3, .int (nI i))], [], w)) : BX me_L_law 12 (some (L, xs)) QL0 (331, [(0, .ref 999), (1, .ref 0), (2, .ref 48), (3, .int (nI i))], [], u) := by
  obtain ⟨z, D1, Q1, hD1, c1, kk⟩ := pr_boat u hI (xs (i + 1)) (xs (i + 2))
  refine run_ok 5 (c' := (336, [(0, .ref 999), (1, .ref 0), (2, .ref 48), (3, .int (nI i))], [.int ((nI i) + (nI 1)), .ref 999, .ref 0], u)) rfl ?_
  refine x_top (v' := nI (i + 1)) (nI_add _ _) ?_
  refine x_sldN rfl (by omega) (by omega) ?_
  refine run_ok 4 (c' := (341, [(0, .ref 999), (1, .ref 0), (2, .ref 48), (3, .int (nI i))], [.int ((nI i) + (nI 2)), .ref 999, .int (xs (i + 1)), .ref 0], u)) rfl ?_
  refine x_top (v' := nI (i + 2)) (nI_add _ _) ?_
  refine x_sldN rfl (by omega) (by omega) ?_
  refine x_callV [.int (xs (i + 1)), .int (xs (i + 2))] rfl cv_N_boat.1 lk_8_35 cv_N_boat.2.1 cv_N_boat.2.2.1 rfl cv_N_boat.2.2.2.1 rfl rfl (Nat.le_of_ble_eq_true rfl) (show D1 + 1 ≤ 12 by omega) cv_N_boat.2.2.2.2 c1 ?_
  rintro r v hv
  obtain ⟨hr, D2, Q2, hD2, c2, kk2⟩ := kk r v hv
  rw [hr]
  refine run_ok 5 (c' := (350, [(0, .ref 999), (1, .ref 0), (2, .ref 48), (3, .int (nI i))], [.int ((nI i) + (nI 1)), .ref 999, .ref 48, .int z], v)) rfl ?_
  refine x_top (v' := nI (i + 1)) (nI_add _ _) ?_
  refine x_sldN rfl (by omega) (by omega) ?_
  refine run_ok 4 (c' := (355, [(0, .ref 999), (1, .ref 0), (2, .ref 48), (3, .int (nI i))], [.int ((nI i) + (nI 2)), .ref 999, .int (xs (i + 1)), .ref 48, .int z], v)) rfl ?_
  refine x_top (v' := nI (i + 2)) (nI_add _ _) ?_
  refine x_sldN rfl (by omega) (by omega) ?_
  refine x_callV [.int (xs (i + 1)), .int (xs (i + 2))] rfl cv_R_boat.1 lk_8_38 cv_R_boat.2.1 cv_R_boat.2.2.1 rfl cv_R_boat.2.2.2.1 rfl rfl (Nat.le_of_ble_eq_true rfl) (show D2 + 1 ≤ 12 by omega) cv_R_boat.2.2.2.2 c2 ?_
  rintro r w hw
  obtain ⟨hr, hJ⟩ := kk2 r w hw
  rw [hr]
  refine x_icmp_eq 1319 rfl rfl (fun h359 => ?_) (fun hn => absurd rfl hn)
  exact K w hJ
theorem lw_6 {L : Nat} {xs : Nat → Int32} {i : Nat} (hL : L ≤ 3072) (hi : i + 6 ≤ L) {u : ST} (hI : INV u) (K : ∀ w, INV w → BX me_L_law 12 (some (L, xs)) QL0 (1319, [(0, .ref 999), (1, .ref 0), (2, .ref 48), (3, .int (nI i))], [], w)) : BX me_L_law 12 (some (L, xs)) QL0 (364, [(0, .ref 999), (1, .ref 0), (2, .ref 48), (3, .int (nI i))], [], u) := by
  obtain ⟨z, D1, Q1, hD1, c1, kk⟩ := pr_event u hI (xs (i + 1)) (xs (i + 2)) (xs (i + 3))
  refine run_ok 5 (c' := (369, [(0, .ref 999), (1, .ref 0), (2, .ref 48), (3, .int (nI i))], [.int ((nI i) + (nI 1)), .ref 999, .ref 0], u)) rfl ?_
  refine x_top (v' := nI (i + 1)) (nI_add _ _) ?_
  refine x_sldN rfl (by omega) (by omega) ?_
  refine run_ok 4 (c' := (374, [(0, .ref 999), (1, .ref 0), (2, .ref 48), (3, .int (nI i))], [.int ((nI i) + (nI 2)), .ref 999, .int (xs (i + 1)), .ref 0], u)) rfl ?_
  refine x_top (v' := nI (i + 2)) (nI_add _ _) ?_
  refine x_sldN rfl (by omega) (by omega) ?_
  refine run_ok 4 (c' := (379, [(0, .ref 999), (1, .ref 0), (2, .ref 48), (3, .int (nI i))], [.int ((nI i) + (nI 3)), .ref 999, .int (xs (i + 2)), .int (xs (i + 1)), .ref 0], u)) rfl ?_
  refine x_top (v' := nI (i + 3)) (nI_add _ _) ?_
  refine x_sldN rfl (by omega) (by omega) ?_
  refine x_callV [.int (xs (i + 1)), .int (xs (i + 2)), .int (xs (i + 3))] rfl cv_N_event.1 lk_8_39 cv_N_event.2.1 cv_N_event.2.2.1 rfl cv_N_event.2.2.2.1 rfl rfl (Nat.le_of_ble_eq_true rfl) (show D1 + 1 ≤ 12 by omega) cv_N_event.2.2.2.2 c1 ?_
  rintro r v hv
  obtain ⟨hr, D2, Q2, hD2, c2, kk2⟩ := kk r v hv
  rw [hr]
  refine run_ok 5 (c' := (388, [(0, .ref 999), (1, .ref 0), (2, .ref 48), (3, .int (nI i))], [.int ((nI i) + (nI 1)), .ref 999, .ref 48, .int z], v)) rfl ?_
  refine x_top (v' := nI (i + 1)) (nI_add _ _) ?_
  refine x_sldN rfl (by omega) (by omega) ?_
  refine run_ok 4 (c' := (393, [(0, .ref 999), (1, .ref 0), (2, .ref 48), (3, .int (nI i))], [.int ((nI i) + (nI 2)), .ref 999, .int (xs (i + 1)), .ref 48, .int z], v)) rfl ?_
  refine x_top (v' := nI (i + 2)) (nI_add _ _) ?_
  refine x_sldN rfl (by omega) (by omega) ?_
  refine run_ok 4 (c' := (398, [(0, .ref 999), (1, .ref 0), (2, .ref 48), (3, .int (nI i))], [.int ((nI i) + (nI 3)), .ref 999, .int (xs (i + 2)), .int (xs (i + 1)), .ref 48, .int z], v)) rfl ?_
  refine x_top (v' := nI (i + 3)) (nI_add _ _) ?_
  refine x_sldN rfl (by omega) (by omega) ?_
  refine x_callV [.int (xs (i + 1)), .int (xs (i + 2)), .int (xs (i + 3))] rfl cv_R_event.1 lk_8_43 cv_R_event.2.1 cv_R_event.2.2.1 rfl cv_R_event.2.2.2.1 rfl rfl (Nat.le_of_ble_eq_true rfl) (show D2 + 1 ≤ 12 by omega) cv_R_event.2.2.2.2 c2 ?_
  rintro r w hw
  obtain ⟨hr, hJ⟩ := kk2 r w hw
  rw [hr]
  refine x_icmp_eq 1319 rfl rfl (fun h402 => ?_) (fun hn => absurd rfl hn)
  exact K w hJ
theorem lw_7 {L : Nat} {xs : Nat → Int32} {i : Nat} (hL : L ≤ 3072) (hi : i + 6 ≤ L) {u : ST} (hI : INV u) (K : ∀ w, INV w → BX me_L_law 12 (some (L, xs)) QL0 (1319, [(0, .ref 999), (1, .ref 0), (2, .ref 48), (3, .int (nI i))], [], w)) : BX me_L_law 12 (some (L, xs)) QL0 (407, [(0, .ref 999), (1, .ref 0), (2, .ref 48), (3, .int (nI i))], [], u) := by
  obtain ⟨z, D1, Q1, hD1, c1, kk⟩ := pr_back u hI
  refine run_ok 1 (c' := (408, [(0, .ref 999), (1, .ref 0), (2, .ref 48), (3, .int (nI i))], [.ref 0], u)) rfl ?_
  refine x_callV [] rfl cv_N_back.1 lk_8_44 cv_N_back.2.1 cv_N_back.2.2.1 rfl cv_N_back.2.2.2.1 rfl rfl (Nat.le_of_ble_eq_true rfl) (show D1 + 1 ≤ 12 by omega) cv_N_back.2.2.2.2 c1 ?_
  rintro r v hv
  obtain ⟨hr, D2, Q2, hD2, c2, kk2⟩ := kk r v hv
  rw [hr]
  refine run_ok 1 (c' := (412, [(0, .ref 999), (1, .ref 0), (2, .ref 48), (3, .int (nI i))], [.ref 48, .int z], v)) rfl ?_
  refine x_callV [] rfl cv_R_back.1 lk_8_48 cv_R_back.2.1 cv_R_back.2.2.1 rfl cv_R_back.2.2.2.1 rfl rfl (Nat.le_of_ble_eq_true rfl) (show D2 + 1 ≤ 12 by omega) cv_R_back.2.2.2.2 c2 ?_
  rintro r w hw
  obtain ⟨hr, hJ⟩ := kk2 r w hw
  rw [hr]
  refine x_icmp_eq 1319 rfl rfl (fun h415 => ?_) (fun hn => absurd rfl hn)
  exact K w hJ
theorem lw_8 {L : Nat} {xs : Nat → Int32} {i : Nat} (hL : L ≤ 3072) (hi : i + 6 ≤ L) {u : ST} (hI : INV u) (K : ∀ w, INV w → BX me_L_law 12 (some (L, xs)) QL0 (1319, [(0, .ref 999), (1, .ref 0), (2, .ref 48), (3, .int (nI i))], [], w)) : BX me_L_law 12 (some (L, xs)) QL0 (420, [(0, .ref 999), (1, .ref 0), (2, .ref 48), (3, .int (nI i))], [], u) := by
  obtain ⟨z, D1, Q1, hD1, c1, kk⟩ := pr_read u hI (xs (i + 1))
  refine run_ok 5 (c' := (425, [(0, .ref 999), (1, .ref 0), (2, .ref 48), (3, .int (nI i))], [.int ((nI i) + (nI 1)), .ref 999, .ref 0], u)) rfl ?_
  refine x_top (v' := nI (i + 1)) (nI_add _ _) ?_
  refine x_sldN rfl (by omega) (by omega) ?_
  refine x_callV [.int (xs (i + 1))] rfl cv_N_read.1 lk_8_49 cv_N_read.2.1 cv_N_read.2.2.1 rfl cv_N_read.2.2.2.1 rfl rfl (Nat.le_of_ble_eq_true rfl) (show D1 + 1 ≤ 12 by omega) cv_N_read.2.2.2.2 c1 ?_
  rintro r v hv
  obtain ⟨hr, D2, Q2, hD2, c2, kk2⟩ := kk r v hv
  rw [hr]
  refine run_ok 5 (c' := (434, [(0, .ref 999), (1, .ref 0), (2, .ref 48), (3, .int (nI i))], [.int ((nI i) + (nI 1)), .ref 999, .ref 48, .int z], v)) rfl ?_
  refine x_top (v' := nI (i + 1)) (nI_add _ _) ?_
  refine x_sldN rfl (by omega) (by omega) ?_
  refine x_callV [.int (xs (i + 1))] rfl cv_R_read.1 lk_8_52 cv_R_read.2.1 cv_R_read.2.2.1 rfl cv_R_read.2.2.2.1 rfl rfl (Nat.le_of_ble_eq_true rfl) (show D2 + 1 ≤ 12 by omega) cv_R_read.2.2.2.2 c2 ?_
  rintro r w hw
  obtain ⟨hr, hJ⟩ := kk2 r w hw
  rw [hr]
  refine x_icmp_eq 1319 rfl rfl (fun h438 => ?_) (fun hn => absurd rfl hn)
  exact K w hJ
theorem lw_9 {L : Nat} {xs : Nat → Int32} {i : Nat} (hL : L ≤ 3072) (hi : i + 6 ≤ L) {u : ST} (hI : INV u) (K : ∀ w, INV w → BX me_L_law 12 (some (L, xs)) QL0 (1319, [(0, .ref 999), (1, .ref 0), (2, .ref 48), (3, .int (nI i))], [], w)) : BX me_L_law 12 (some (L, xs)) QL0 (443, [(0, .ref 999), (1, .ref 0), (2, .ref 48), (3, .int (nI i))], [], u) := by
  obtain ⟨z, D1, Q1, hD1, c1, kk⟩ := pr_hates u hI (xs (i + 1)) (xs (i + 2)) (xs (i + 3))
  refine run_ok 5 (c' := (448, [(0, .ref 999), (1, .ref 0), (2, .ref 48), (3, .int (nI i))], [.int ((nI i) + (nI 1)), .ref 999, .ref 0], u)) rfl ?_
  refine x_top (v' := nI (i + 1)) (nI_add _ _) ?_
  refine x_sldN rfl (by omega) (by omega) ?_
  refine run_ok 4 (c' := (453, [(0, .ref 999), (1, .ref 0), (2, .ref 48), (3, .int (nI i))], [.int ((nI i) + (nI 2)), .ref 999, .int (xs (i + 1)), .ref 0], u)) rfl ?_
  refine x_top (v' := nI (i + 2)) (nI_add _ _) ?_
  refine x_sldN rfl (by omega) (by omega) ?_
  refine run_ok 4 (c' := (458, [(0, .ref 999), (1, .ref 0), (2, .ref 48), (3, .int (nI i))], [.int ((nI i) + (nI 3)), .ref 999, .int (xs (i + 2)), .int (xs (i + 1)), .ref 0], u)) rfl ?_
  refine x_top (v' := nI (i + 3)) (nI_add _ _) ?_
  refine x_sldN rfl (by omega) (by omega) ?_
  refine x_callV [.int (xs (i + 1)), .int (xs (i + 2)), .int (xs (i + 3))] rfl cv_N_hates.1 lk_8_53 cv_N_hates.2.1 cv_N_hates.2.2.1 rfl cv_N_hates.2.2.2.1 rfl rfl (Nat.le_of_ble_eq_true rfl) (show D1 + 1 ≤ 12 by omega) cv_N_hates.2.2.2.2 c1 ?_
  rintro r v hv
  obtain ⟨hr, D2, Q2, hD2, c2, kk2⟩ := kk r v hv
  rw [hr]
  refine run_ok 5 (c' := (467, [(0, .ref 999), (1, .ref 0), (2, .ref 48), (3, .int (nI i))], [.int ((nI i) + (nI 1)), .ref 999, .ref 48, .int z], v)) rfl ?_
  refine x_top (v' := nI (i + 1)) (nI_add _ _) ?_
  refine x_sldN rfl (by omega) (by omega) ?_
  refine run_ok 4 (c' := (472, [(0, .ref 999), (1, .ref 0), (2, .ref 48), (3, .int (nI i))], [.int ((nI i) + (nI 2)), .ref 999, .int (xs (i + 1)), .ref 48, .int z], v)) rfl ?_
  refine x_top (v' := nI (i + 2)) (nI_add _ _) ?_
  refine x_sldN rfl (by omega) (by omega) ?_
  refine run_ok 4 (c' := (477, [(0, .ref 999), (1, .ref 0), (2, .ref 48), (3, .int (nI i))], [.int ((nI i) + (nI 3)), .ref 999, .int (xs (i + 2)), .int (xs (i + 1)), .ref 48, .int z], v)) rfl ?_
  refine x_top (v' := nI (i + 3)) (nI_add _ _) ?_
  refine x_sldN rfl (by omega) (by omega) ?_
  refine x_callV [.int (xs (i + 1)), .int (xs (i + 2)), .int (xs (i + 3))] rfl cv_R_hates.1 lk_8_56 cv_R_hates.2.1 cv_R_hates.2.2.1 rfl cv_R_hates.2.2.2.1 rfl rfl (Nat.le_of_ble_eq_true rfl) (show D2 + 1 ≤ 12 by omega) cv_R_hates.2.2.2.2 c2 ?_
  rintro r w hw
  obtain ⟨hr, hJ⟩ := kk2 r w hw
  rw [hr]
  refine x_icmp_eq 1319 rfl rfl (fun h481 => ?_) (fun hn => absurd rfl hn)
  exact K w hJ
theorem lw_10 {L : Nat} {xs : Nat → Int32} {i : Nat} (hL : L ≤ 3072) (hi : i + 6 ≤ L) {u : ST} (hI : INV u) (K : ∀ w, INV w → BX me_L_law 12 (some (L, xs)) QL0 (1319, [(0, .ref 999), (1, .ref 0), (2, .ref 48), (3, .int (nI i))], [], w)) : BX me_L_law 12 (some (L, xs)) QL0 (486, [(0, .ref 999), (1, .ref 0), (2, .ref 48), (3, .int (nI i))], [], u) := by
  obtain ⟨z, D1, Q1, hD1, c1, kk⟩ := pr_at u hI (xs (i + 1)) (xs (i + 2)) (xs (i + 3))
  refine run_ok 5 (c' := (491, [(0, .ref 999), (1, .ref 0), (2, .ref 48), (3, .int (nI i))], [.int ((nI i) + (nI 1)), .ref 999, .ref 0], u)) rfl ?_
  refine x_top (v' := nI (i + 1)) (nI_add _ _) ?_
  refine x_sldN rfl (by omega) (by omega) ?_
  refine run_ok 4 (c' := (496, [(0, .ref 999), (1, .ref 0), (2, .ref 48), (3, .int (nI i))], [.int ((nI i) + (nI 2)), .ref 999, .int (xs (i + 1)), .ref 0], u)) rfl ?_
  refine x_top (v' := nI (i + 2)) (nI_add _ _) ?_
  refine x_sldN rfl (by omega) (by omega) ?_
  refine run_ok 4 (c' := (501, [(0, .ref 999), (1, .ref 0), (2, .ref 48), (3, .int (nI i))], [.int ((nI i) + (nI 3)), .ref 999, .int (xs (i + 2)), .int (xs (i + 1)), .ref 0], u)) rfl ?_
  refine x_top (v' := nI (i + 3)) (nI_add _ _) ?_
  refine x_sldN rfl (by omega) (by omega) ?_
  refine x_callV [.int (xs (i + 1)), .int (xs (i + 2)), .int (xs (i + 3))] rfl cv_N_at.1 lk_8_57 cv_N_at.2.1 cv_N_at.2.2.1 rfl cv_N_at.2.2.2.1 rfl rfl (Nat.le_of_ble_eq_true rfl) (show D1 + 1 ≤ 12 by omega) cv_N_at.2.2.2.2 c1 ?_
  rintro r v hv
  obtain ⟨hr, D2, Q2, hD2, c2, kk2⟩ := kk r v hv
  rw [hr]
  refine run_ok 5 (c' := (510, [(0, .ref 999), (1, .ref 0), (2, .ref 48), (3, .int (nI i))], [.int ((nI i) + (nI 1)), .ref 999, .ref 48, .int z], v)) rfl ?_
  refine x_top (v' := nI (i + 1)) (nI_add _ _) ?_
  refine x_sldN rfl (by omega) (by omega) ?_
  refine run_ok 4 (c' := (515, [(0, .ref 999), (1, .ref 0), (2, .ref 48), (3, .int (nI i))], [.int ((nI i) + (nI 2)), .ref 999, .int (xs (i + 1)), .ref 48, .int z], v)) rfl ?_
  refine x_top (v' := nI (i + 2)) (nI_add _ _) ?_
  refine x_sldN rfl (by omega) (by omega) ?_
  refine run_ok 4 (c' := (520, [(0, .ref 999), (1, .ref 0), (2, .ref 48), (3, .int (nI i))], [.int ((nI i) + (nI 3)), .ref 999, .int (xs (i + 2)), .int (xs (i + 1)), .ref 48, .int z], v)) rfl ?_
  refine x_top (v' := nI (i + 3)) (nI_add _ _) ?_
  refine x_sldN rfl (by omega) (by omega) ?_
  refine x_callV [.int (xs (i + 1)), .int (xs (i + 2)), .int (xs (i + 3))] rfl cv_R_at.1 lk_8_60 cv_R_at.2.1 cv_R_at.2.2.1 rfl cv_R_at.2.2.2.1 rfl rfl (Nat.le_of_ble_eq_true rfl) (show D2 + 1 ≤ 12 by omega) cv_R_at.2.2.2.2 c2 ?_
  rintro r w hw
  obtain ⟨hr, hJ⟩ := kk2 r w hw
  rw [hr]
  refine x_icmp_eq 1319 rfl rfl (fun h524 => ?_) (fun hn => absurd rfl hn)
  exact K w hJ
theorem lw_11 {L : Nat} {xs : Nat → Int32} {i : Nat} (hL : L ≤ 3072) (hi : i + 6 ≤ L) {u : ST} (hI : INV u) (K : ∀ w, INV w → BX me_L_law 12 (some (L, xs)) QL0 (1319, [(0, .ref 999), (1, .ref 0), (2, .ref 48), (3, .int (nI i))], [], w)) : BX me_L_law 12 (some (L, xs)) QL0 (529, [(0, .ref 999), (1, .ref 0), (2, .ref 48), (3, .int (nI i))], [], u) := by
  obtain ⟨z, D1, Q1, hD1, c1, kk⟩ := pr_afloat u hI (xs (i + 1))
  refine run_ok 5 (c' := (534, [(0, .ref 999), (1, .ref 0), (2, .ref 48), (3, .int (nI i))], [.int ((nI i) + (nI 1)), .ref 999, .ref 0], u)) rfl ?_
  refine x_top (v' := nI (i + 1)) (nI_add _ _) ?_
  refine x_sldN rfl (by omega) (by omega) ?_
  refine x_callV [.int (xs (i + 1))] rfl cv_N_afloat.1 lk_8_61 cv_N_afloat.2.1 cv_N_afloat.2.2.1 rfl cv_N_afloat.2.2.2.1 rfl rfl (Nat.le_of_ble_eq_true rfl) (show D1 + 1 ≤ 12 by omega) cv_N_afloat.2.2.2.2 c1 ?_
  rintro r v hv
  obtain ⟨hr, D2, Q2, hD2, c2, kk2⟩ := kk r v hv
  rw [hr]
  refine run_ok 5 (c' := (543, [(0, .ref 999), (1, .ref 0), (2, .ref 48), (3, .int (nI i))], [.int ((nI i) + (nI 1)), .ref 999, .ref 48, .int z], v)) rfl ?_
  refine x_top (v' := nI (i + 1)) (nI_add _ _) ?_
  refine x_sldN rfl (by omega) (by omega) ?_
  refine x_callV [.int (xs (i + 1))] rfl cv_R_afloat.1 lk_8_64 cv_R_afloat.2.1 cv_R_afloat.2.2.1 rfl cv_R_afloat.2.2.2.1 rfl rfl (Nat.le_of_ble_eq_true rfl) (show D2 + 1 ≤ 12 by omega) cv_R_afloat.2.2.2.2 c2 ?_
  rintro r w hw
  obtain ⟨hr, hJ⟩ := kk2 r w hw
  rw [hr]
  refine x_icmp_eq 1319 rfl rfl (fun h547 => ?_) (fun hn => absurd rfl hn)
  exact K w hJ
theorem lw_12 {L : Nat} {xs : Nat → Int32} {i : Nat} (hL : L ≤ 3072) (hi : i + 6 ≤ L) {u : ST} (hI : INV u) (K : ∀ w, INV w → BX me_L_law 12 (some (L, xs)) QL0 (1319, [(0, .ref 999), (1, .ref 0), (2, .ref 48), (3, .int (nI i))], [], w)) : BX me_L_law 12 (some (L, xs)) QL0 (552, [(0, .ref 999), (1, .ref 0), (2, .ref 48), (3, .int (nI i))], [], u) := by
  obtain ⟨z, D1, Q1, hD1, c1, kk⟩ := pr_named u hI (xs (i + 1)) (xs (i + 2))
  refine run_ok 5 (c' := (557, [(0, .ref 999), (1, .ref 0), (2, .ref 48), (3, .int (nI i))], [.int ((nI i) + (nI 1)), .ref 999, .ref 0], u)) rfl ?_
  refine x_top (v' := nI (i + 1)) (nI_add _ _) ?_
  refine x_sldN rfl (by omega) (by omega) ?_
  refine run_ok 4 (c' := (562, [(0, .ref 999), (1, .ref 0), (2, .ref 48), (3, .int (nI i))], [.int ((nI i) + (nI 2)), .ref 999, .int (xs (i + 1)), .ref 0], u)) rfl ?_
  refine x_top (v' := nI (i + 2)) (nI_add _ _) ?_
  refine x_sldN rfl (by omega) (by omega) ?_
  refine x_callV [.int (xs (i + 1)), .int (xs (i + 2))] rfl cv_N_named.1 lk_8_65 cv_N_named.2.1 cv_N_named.2.2.1 rfl cv_N_named.2.2.2.1 rfl rfl (Nat.le_of_ble_eq_true rfl) (show D1 + 1 ≤ 12 by omega) cv_N_named.2.2.2.2 c1 ?_
  rintro r v hv
  obtain ⟨hr, D2, Q2, hD2, c2, kk2⟩ := kk r v hv
  rw [hr]
  refine run_ok 5 (c' := (571, [(0, .ref 999), (1, .ref 0), (2, .ref 48), (3, .int (nI i))], [.int ((nI i) + (nI 1)), .ref 999, .ref 48, .int z], v)) rfl ?_
  refine x_top (v' := nI (i + 1)) (nI_add _ _) ?_
  refine x_sldN rfl (by omega) (by omega) ?_
  refine run_ok 4 (c' := (576, [(0, .ref 999), (1, .ref 0), (2, .ref 48), (3, .int (nI i))], [.int ((nI i) + (nI 2)), .ref 999, .int (xs (i + 1)), .ref 48, .int z], v)) rfl ?_
  refine x_top (v' := nI (i + 2)) (nI_add _ _) ?_
  refine x_sldN rfl (by omega) (by omega) ?_
  refine x_callV [.int (xs (i + 1)), .int (xs (i + 2))] rfl cv_R_named.1 lk_8_68 cv_R_named.2.1 cv_R_named.2.2.1 rfl cv_R_named.2.2.2.1 rfl rfl (Nat.le_of_ble_eq_true rfl) (show D2 + 1 ≤ 12 by omega) cv_R_named.2.2.2.2 c2 ?_
  rintro r w hw
  obtain ⟨hr, hJ⟩ := kk2 r w hw
  rw [hr]
  refine x_icmp_eq 1319 rfl rfl (fun h580 => ?_) (fun hn => absurd rfl hn)
  exact K w hJ
theorem lw_13 {L : Nat} {xs : Nat → Int32} {i : Nat} (hL : L ≤ 3072) (hi : i + 6 ≤ L) {u : ST} (hI : INV u) (K : ∀ w, INV w → BX me_L_law 12 (some (L, xs)) QL0 (1319, [(0, .ref 999), (1, .ref 0), (2, .ref 48), (3, .int (nI i))], [], w)) : BX me_L_law 12 (some (L, xs)) QL0 (585, [(0, .ref 999), (1, .ref 0), (2, .ref 48), (3, .int (nI i))], [], u) := by
  obtain ⟨z, D1, Q1, hD1, c1, kk⟩ := pr_first u hI (xs (i + 1))
  refine run_ok 5 (c' := (590, [(0, .ref 999), (1, .ref 0), (2, .ref 48), (3, .int (nI i))], [.int ((nI i) + (nI 1)), .ref 999, .ref 0], u)) rfl ?_
  refine x_top (v' := nI (i + 1)) (nI_add _ _) ?_
  refine x_sldN rfl (by omega) (by omega) ?_
  refine x_callV [.int (xs (i + 1))] rfl cv_N_first.1 lk_8_69 cv_N_first.2.1 cv_N_first.2.2.1 rfl cv_N_first.2.2.2.1 rfl rfl (Nat.le_of_ble_eq_true rfl) (show D1 + 1 ≤ 12 by omega) cv_N_first.2.2.2.2 c1 ?_
  rintro r v hv
  obtain ⟨hr, D2, Q2, hD2, c2, kk2⟩ := kk r v hv
  rw [hr]
  refine run_ok 5 (c' := (599, [(0, .ref 999), (1, .ref 0), (2, .ref 48), (3, .int (nI i))], [.int ((nI i) + (nI 1)), .ref 999, .ref 48, .int z], v)) rfl ?_
  refine x_top (v' := nI (i + 1)) (nI_add _ _) ?_
  refine x_sldN rfl (by omega) (by omega) ?_
  refine x_callV [.int (xs (i + 1))] rfl cv_R_first.1 lk_8_72 cv_R_first.2.1 cv_R_first.2.2.1 rfl cv_R_first.2.2.2.1 rfl rfl (Nat.le_of_ble_eq_true rfl) (show D2 + 1 ≤ 12 by omega) cv_R_first.2.2.2.2 c2 ?_
  rintro r w hw
  obtain ⟨hr, hJ⟩ := kk2 r w hw
  rw [hr]
  refine x_icmp_eq 1319 rfl rfl (fun h603 => ?_) (fun hn => absurd rfl hn)
  exact K w hJ
theorem lw_14 {L : Nat} {xs : Nat → Int32} {i : Nat} (hL : L ≤ 3072) (hi : i + 6 ≤ L) {u : ST} (hI : INV u) (K : ∀ w, INV w → BX me_L_law 12 (some (L, xs)) QL0 (1319, [(0, .ref 999), (1, .ref 0), (2, .ref 48), (3, .int (nI i))], [], w)) : BX me_L_law 12 (some (L, xs)) QL0 (608, [(0, .ref 999), (1, .ref 0), (2, .ref 48), (3, .int (nI i))], [], u) := by
  obtain ⟨z, D1, Q1, hD1, c1, kk⟩ := pr_loved u hI
  refine run_ok 1 (c' := (609, [(0, .ref 999), (1, .ref 0), (2, .ref 48), (3, .int (nI i))], [.ref 0], u)) rfl ?_
  refine x_callV [] rfl cv_N_loved.1 lk_8_73 cv_N_loved.2.1 cv_N_loved.2.2.1 rfl cv_N_loved.2.2.2.1 rfl rfl (Nat.le_of_ble_eq_true rfl) (show D1 + 1 ≤ 12 by omega) cv_N_loved.2.2.2.2 c1 ?_
  rintro r v hv
  obtain ⟨hr, D2, Q2, hD2, c2, kk2⟩ := kk r v hv
  rw [hr]
  refine run_ok 1 (c' := (613, [(0, .ref 999), (1, .ref 0), (2, .ref 48), (3, .int (nI i))], [.ref 48, .int z], v)) rfl ?_
  refine x_callV [] rfl cv_R_loved.1 lk_8_76 cv_R_loved.2.1 cv_R_loved.2.2.1 rfl cv_R_loved.2.2.2.1 rfl rfl (Nat.le_of_ble_eq_true rfl) (show D2 + 1 ≤ 12 by omega) cv_R_loved.2.2.2.2 c2 ?_
  rintro r w hw
  obtain ⟨hr, hJ⟩ := kk2 r w hw
  rw [hr]
  refine x_icmp_eq 1319 rfl rfl (fun h616 => ?_) (fun hn => absurd rfl hn)
  exact K w hJ
theorem lw_15 {L : Nat} {xs : Nat → Int32} {i : Nat} (hL : L ≤ 3072) (hi : i + 6 ≤ L) {u : ST} (hI : INV u) (K : ∀ w, INV w → BX me_L_law 12 (some (L, xs)) QL0 (1319, [(0, .ref 999), (1, .ref 0), (2, .ref 48), (3, .int (nI i))], [], w)) : BX me_L_law 12 (some (L, xs)) QL0 (621, [(0, .ref 999), (1, .ref 0), (2, .ref 48), (3, .int (nI i))], [], u) := by
  obtain ⟨z, D1, Q1, hD1, c1, kk⟩ := pr_bitter u hI
  refine run_ok 1 (c' := (622, [(0, .ref 999), (1, .ref 0), (2, .ref 48), (3, .int (nI i))], [.ref 0], u)) rfl ?_
  refine x_callV [] rfl cv_N_bitter.1 lk_8_77 cv_N_bitter.2.1 cv_N_bitter.2.2.1 rfl cv_N_bitter.2.2.2.1 rfl rfl (Nat.le_of_ble_eq_true rfl) (show D1 + 1 ≤ 12 by omega) cv_N_bitter.2.2.2.2 c1 ?_
  rintro r v hv
  obtain ⟨hr, D2, Q2, hD2, c2, kk2⟩ := kk r v hv
  rw [hr]
  refine run_ok 1 (c' := (626, [(0, .ref 999), (1, .ref 0), (2, .ref 48), (3, .int (nI i))], [.ref 48, .int z], v)) rfl ?_
  refine x_callV [] rfl cv_R_bitter.1 lk_8_80 cv_R_bitter.2.1 cv_R_bitter.2.2.1 rfl cv_R_bitter.2.2.2.1 rfl rfl (Nat.le_of_ble_eq_true rfl) (show D2 + 1 ≤ 12 by omega) cv_R_bitter.2.2.2.2 c2 ?_
  rintro r w hw
  obtain ⟨hr, hJ⟩ := kk2 r w hw
  rw [hr]
  refine x_icmp_eq 1319 rfl rfl (fun h629 => ?_) (fun hn => absurd rfl hn)
  exact K w hJ
theorem lw_16 {L : Nat} {xs : Nat → Int32} {i : Nat} (hL : L ≤ 3072) (hi : i + 6 ≤ L) {u : ST} (hI : INV u) (K : ∀ w, INV w → BX me_L_law 12 (some (L, xs)) QL0 (1319, [(0, .ref 999), (1, .ref 0), (2, .ref 48), (3, .int (nI i))], [], w)) : BX me_L_law 12 (some (L, xs)) QL0 (634, [(0, .ref 999), (1, .ref 0), (2, .ref 48), (3, .int (nI i))], [], u) := by
  obtain ⟨z, D1, Q1, hD1, c1, kk⟩ := pr_longs u hI (xs (i + 1))
  refine run_ok 5 (c' := (639, [(0, .ref 999), (1, .ref 0), (2, .ref 48), (3, .int (nI i))], [.int ((nI i) + (nI 1)), .ref 999, .ref 0], u)) rfl ?_
  refine x_top (v' := nI (i + 1)) (nI_add _ _) ?_
  refine x_sldN rfl (by omega) (by omega) ?_
  refine x_callV [.int (xs (i + 1))] rfl cv_N_longs.1 lk_8_81 cv_N_longs.2.1 cv_N_longs.2.2.1 rfl cv_N_longs.2.2.2.1 rfl rfl (Nat.le_of_ble_eq_true rfl) (show D1 + 1 ≤ 12 by omega) cv_N_longs.2.2.2.2 c1 ?_
  rintro r v hv
  obtain ⟨hr, D2, Q2, hD2, c2, kk2⟩ := kk r v hv
  rw [hr]
  refine run_ok 5 (c' := (648, [(0, .ref 999), (1, .ref 0), (2, .ref 48), (3, .int (nI i))], [.int ((nI i) + (nI 1)), .ref 999, .ref 48, .int z], v)) rfl ?_
  refine x_top (v' := nI (i + 1)) (nI_add _ _) ?_
  refine x_sldN rfl (by omega) (by omega) ?_
  refine x_callV [.int (xs (i + 1))] rfl cv_R_longs.1 lk_8_84 cv_R_longs.2.1 cv_R_longs.2.2.1 rfl cv_R_longs.2.2.2.1 rfl rfl (Nat.le_of_ble_eq_true rfl) (show D2 + 1 ≤ 12 by omega) cv_R_longs.2.2.2.2 c2 ?_
  rintro r w hw
  obtain ⟨hr, hJ⟩ := kk2 r w hw
  rw [hr]
  refine x_icmp_eq 1319 rfl rfl (fun h652 => ?_) (fun hn => absurd rfl hn)
  exact K w hJ
theorem lw_17 {L : Nat} {xs : Nat → Int32} {i : Nat} (hL : L ≤ 3072) (hi : i + 6 ≤ L) {u : ST} (hI : INV u) (K : ∀ w, INV w → BX me_L_law 12 (some (L, xs)) QL0 (1319, [(0, .ref 999), (1, .ref 0), (2, .ref 48), (3, .int (nI i))], [], w)) : BX me_L_law 12 (some (L, xs)) QL0 (657, [(0, .ref 999), (1, .ref 0), (2, .ref 48), (3, .int (nI i))], [], u) := by
  obtain ⟨z, D1, Q1, hD1, c1, kk⟩ := pr_wrong u hI (xs (i + 1)) (xs (i + 2))
  refine run_ok 5 (c' := (662, [(0, .ref 999), (1, .ref 0), (2, .ref 48), (3, .int (nI i))], [.int ((nI i) + (nI 1)), .ref 999, .ref 0], u)) rfl ?_
  refine x_top (v' := nI (i + 1)) (nI_add _ _) ?_
  refine x_sldN rfl (by omega) (by omega) ?_
  refine run_ok 4 (c' := (667, [(0, .ref 999), (1, .ref 0), (2, .ref 48), (3, .int (nI i))], [.int ((nI i) + (nI 2)), .ref 999, .int (xs (i + 1)), .ref 0], u)) rfl ?_
  refine x_top (v' := nI (i + 2)) (nI_add _ _) ?_
  refine x_sldN rfl (by omega) (by omega) ?_
  refine x_callV [.int (xs (i + 1)), .int (xs (i + 2))] rfl cv_N_wrong.1 lk_8_85 cv_N_wrong.2.1 cv_N_wrong.2.2.1 rfl cv_N_wrong.2.2.2.1 rfl rfl (Nat.le_of_ble_eq_true rfl) (show D1 + 1 ≤ 12 by omega) cv_N_wrong.2.2.2.2 c1 ?_
  rintro r v hv
  obtain ⟨hr, D2, Q2, hD2, c2, kk2⟩ := kk r v hv
  rw [hr]
  refine run_ok 5 (c' := (676, [(0, .ref 999), (1, .ref 0), (2, .ref 48), (3, .int (nI i))], [.int ((nI i) + (nI 1)), .ref 999, .ref 48, .int z], v)) rfl ?_
  refine x_top (v' := nI (i + 1)) (nI_add _ _) ?_
  refine x_sldN rfl (by omega) (by omega) ?_
  refine run_ok 4 (c' := (681, [(0, .ref 999), (1, .ref 0), (2, .ref 48), (3, .int (nI i))], [.int ((nI i) + (nI 2)), .ref 999, .int (xs (i + 1)), .ref 48, .int z], v)) rfl ?_
  refine x_top (v' := nI (i + 2)) (nI_add _ _) ?_
  refine x_sldN rfl (by omega) (by omega) ?_
  refine x_callV [.int (xs (i + 1)), .int (xs (i + 2))] rfl cv_R_wrong.1 lk_8_88 cv_R_wrong.2.1 cv_R_wrong.2.2.1 rfl cv_R_wrong.2.2.2.1 rfl rfl (Nat.le_of_ble_eq_true rfl) (show D2 + 1 ≤ 12 by omega) cv_R_wrong.2.2.2.2 c2 ?_
  rintro r w hw
  obtain ⟨hr, hJ⟩ := kk2 r w hw
  rw [hr]
  refine x_icmp_eq 1319 rfl rfl (fun h685 => ?_) (fun hn => absurd rfl hn)
  exact K w hJ
theorem lw_18 {L : Nat} {xs : Nat → Int32} {i : Nat} (hL : L ≤ 3072) (hi : i + 6 ≤ L) {u : ST} (hI : INV u) (K : ∀ w, INV w → BX me_L_law 12 (some (L, xs)) QL0 (1319, [(0, .ref 999), (1, .ref 0), (2, .ref 48), (3, .int (nI i))], [], w)) : BX me_L_law 12 (some (L, xs)) QL0 (690, [(0, .ref 999), (1, .ref 0), (2, .ref 48), (3, .int (nI i))], [], u) := by
  obtain ⟨z, D1, Q1, hD1, c1, kk⟩ := pr_pay u hI (xs (i + 1)) (xs (i + 2))
  refine run_ok 5 (c' := (695, [(0, .ref 999), (1, .ref 0), (2, .ref 48), (3, .int (nI i))], [.int ((nI i) + (nI 1)), .ref 999, .ref 0], u)) rfl ?_
  refine x_top (v' := nI (i + 1)) (nI_add _ _) ?_
  refine x_sldN rfl (by omega) (by omega) ?_
  refine run_ok 4 (c' := (700, [(0, .ref 999), (1, .ref 0), (2, .ref 48), (3, .int (nI i))], [.int ((nI i) + (nI 2)), .ref 999, .int (xs (i + 1)), .ref 0], u)) rfl ?_
  refine x_top (v' := nI (i + 2)) (nI_add _ _) ?_
  refine x_sldN rfl (by omega) (by omega) ?_
  refine x_callV [.int (xs (i + 1)), .int (xs (i + 2))] rfl cv_N_pay.1 lk_8_89 cv_N_pay.2.1 cv_N_pay.2.2.1 rfl cv_N_pay.2.2.2.1 rfl rfl (Nat.le_of_ble_eq_true rfl) (show D1 + 1 ≤ 12 by omega) cv_N_pay.2.2.2.2 c1 ?_
  rintro r v hv
  obtain ⟨hr, D2, Q2, hD2, c2, kk2⟩ := kk r v hv
  rw [hr]
  refine run_ok 5 (c' := (709, [(0, .ref 999), (1, .ref 0), (2, .ref 48), (3, .int (nI i))], [.int ((nI i) + (nI 1)), .ref 999, .ref 48, .int z], v)) rfl ?_
  refine x_top (v' := nI (i + 1)) (nI_add _ _) ?_
  refine x_sldN rfl (by omega) (by omega) ?_
  refine run_ok 4 (c' := (714, [(0, .ref 999), (1, .ref 0), (2, .ref 48), (3, .int (nI i))], [.int ((nI i) + (nI 2)), .ref 999, .int (xs (i + 1)), .ref 48, .int z], v)) rfl ?_
  refine x_top (v' := nI (i + 2)) (nI_add _ _) ?_
  refine x_sldN rfl (by omega) (by omega) ?_
  refine x_callV [.int (xs (i + 1)), .int (xs (i + 2))] rfl cv_R_pay.1 lk_8_92 cv_R_pay.2.1 cv_R_pay.2.2.1 rfl cv_R_pay.2.2.2.1 rfl rfl (Nat.le_of_ble_eq_true rfl) (show D2 + 1 ≤ 12 by omega) cv_R_pay.2.2.2.2 c2 ?_
  rintro r w hw
  obtain ⟨hr, hJ⟩ := kk2 r w hw
  rw [hr]
  refine x_icmp_eq 1319 rfl rfl (fun h718 => ?_) (fun hn => absurd rfl hn)
  exact K w hJ
theorem lw_19 {L : Nat} {xs : Nat → Int32} {i : Nat} (hL : L ≤ 3072) (hi : i + 6 ≤ L) {u : ST} (hI : INV u) (K : ∀ w, INV w → BX me_L_law 12 (some (L, xs)) QL0 (1319, [(0, .ref 999), (1, .ref 0), (2, .ref 48), (3, .int (nI i))], [], w)) : BX me_L_law 12 (some (L, xs)) QL0 (723, [(0, .ref 999), (1, .ref 0), (2, .ref 48), (3, .int (nI i))], [], u) := by
  obtain ⟨z, D1, Q1, hD1, c1, kk⟩ := pr_waits u hI (xs (i + 1)) (xs (i + 2))
  refine run_ok 5 (c' := (728, [(0, .ref 999), (1, .ref 0), (2, .ref 48), (3, .int (nI i))], [.int ((nI i) + (nI 1)), .ref 999, .ref 0], u)) rfl ?_
  refine x_top (v' := nI (i + 1)) (nI_add _ _) ?_
  refine x_sldN rfl (by omega) (by omega) ?_
  refine run_ok 4 (c' := (733, [(0, .ref 999), (1, .ref 0), (2, .ref 48), (3, .int (nI i))], [.int ((nI i) + (nI 2)), .ref 999, .int (xs (i + 1)), .ref 0], u)) rfl ?_
  refine x_top (v' := nI (i + 2)) (nI_add _ _) ?_
  refine x_sldN rfl (by omega) (by omega) ?_
  refine x_callV [.int (xs (i + 1)), .int (xs (i + 2))] rfl cv_N_waits.1 lk_8_93 cv_N_waits.2.1 cv_N_waits.2.2.1 rfl cv_N_waits.2.2.2.1 rfl rfl (Nat.le_of_ble_eq_true rfl) (show D1 + 1 ≤ 12 by omega) cv_N_waits.2.2.2.2 c1 ?_
  rintro r v hv
  obtain ⟨hr, D2, Q2, hD2, c2, kk2⟩ := kk r v hv
  rw [hr]
  refine run_ok 5 (c' := (742, [(0, .ref 999), (1, .ref 0), (2, .ref 48), (3, .int (nI i))], [.int ((nI i) + (nI 1)), .ref 999, .ref 48, .int z], v)) rfl ?_
  refine x_top (v' := nI (i + 1)) (nI_add _ _) ?_
  refine x_sldN rfl (by omega) (by omega) ?_
  refine run_ok 4 (c' := (747, [(0, .ref 999), (1, .ref 0), (2, .ref 48), (3, .int (nI i))], [.int ((nI i) + (nI 2)), .ref 999, .int (xs (i + 1)), .ref 48, .int z], v)) rfl ?_
  refine x_top (v' := nI (i + 2)) (nI_add _ _) ?_
  refine x_sldN rfl (by omega) (by omega) ?_
  refine x_callV [.int (xs (i + 1)), .int (xs (i + 2))] rfl cv_R_waits.1 lk_8_96 cv_R_waits.2.1 cv_R_waits.2.2.1 rfl cv_R_waits.2.2.2.1 rfl rfl (Nat.le_of_ble_eq_true rfl) (show D2 + 1 ≤ 12 by omega) cv_R_waits.2.2.2.2 c2 ?_
  rintro r w hw
  obtain ⟨hr, hJ⟩ := kk2 r w hw
  rw [hr]
  refine x_icmp_eq 1319 rfl rfl (fun h751 => ?_) (fun hn => absurd rfl hn)
  exact K w hJ
theorem lw_20 {L : Nat} {xs : Nat → Int32} {i : Nat} (hL : L ≤ 3072) (hi : i + 6 ≤ L) {u : ST} (hI : INV u) (K : ∀ w, INV w → BX me_L_law 12 (some (L, xs)) QL0 (1319, [(0, .ref 999), (1, .ref 0), (2, .ref 48), (3, .int (nI i))], [], w)) : BX me_L_law 12 (some (L, xs)) QL0 (756, [(0, .ref 999), (1, .ref 0), (2, .ref 48), (3, .int (nI i))], [], u) := by
  obtain ⟨z, D1, Q1, hD1, c1, kk⟩ := pr_spare u hI (xs (i + 1))
  refine run_ok 5 (c' := (761, [(0, .ref 999), (1, .ref 0), (2, .ref 48), (3, .int (nI i))], [.int ((nI i) + (nI 1)), .ref 999, .ref 0], u)) rfl ?_
  refine x_top (v' := nI (i + 1)) (nI_add _ _) ?_
  refine x_sldN rfl (by omega) (by omega) ?_
  refine x_callV [.int (xs (i + 1))] rfl cv_N_spare.1 lk_8_97 cv_N_spare.2.1 cv_N_spare.2.2.1 rfl cv_N_spare.2.2.2.1 rfl rfl (Nat.le_of_ble_eq_true rfl) (show D1 + 1 ≤ 12 by omega) cv_N_spare.2.2.2.2 c1 ?_
  rintro r v hv
  obtain ⟨hr, D2, Q2, hD2, c2, kk2⟩ := kk r v hv
  rw [hr]
  refine run_ok 5 (c' := (770, [(0, .ref 999), (1, .ref 0), (2, .ref 48), (3, .int (nI i))], [.int ((nI i) + (nI 1)), .ref 999, .ref 48, .int z], v)) rfl ?_
  refine x_top (v' := nI (i + 1)) (nI_add _ _) ?_
  refine x_sldN rfl (by omega) (by omega) ?_
  refine x_callV [.int (xs (i + 1))] rfl cv_R_spare.1 lk_8_100 cv_R_spare.2.1 cv_R_spare.2.2.1 rfl cv_R_spare.2.2.2.1 rfl rfl (Nat.le_of_ble_eq_true rfl) (show D2 + 1 ≤ 12 by omega) cv_R_spare.2.2.2.2 c2 ?_
  rintro r w hw
  obtain ⟨hr, hJ⟩ := kk2 r w hw
  rw [hr]
  refine x_icmp_eq 1319 rfl rfl (fun h774 => ?_) (fun hn => absurd rfl hn)
  exact K w hJ
theorem lw_21 {L : Nat} {xs : Nat → Int32} {i : Nat} (hL : L ≤ 3072) (hi : i + 6 ≤ L) {u : ST} (hI : INV u) (K : ∀ w, INV w → BX me_L_law 12 (some (L, xs)) QL0 (1319, [(0, .ref 999), (1, .ref 0), (2, .ref 48), (3, .int (nI i))], [], w)) : BX me_L_law 12 (some (L, xs)) QL0 (779, [(0, .ref 999), (1, .ref 0), (2, .ref 48), (3, .int (nI i))], [], u) := by
  obtain ⟨z, D1, Q1, hD1, c1, kk⟩ := pr_seen u hI (xs (i + 1)) (xs (i + 2)) (xs (i + 3))
  refine run_ok 5 (c' := (784, [(0, .ref 999), (1, .ref 0), (2, .ref 48), (3, .int (nI i))], [.int ((nI i) + (nI 1)), .ref 999, .ref 0], u)) rfl ?_
  refine x_top (v' := nI (i + 1)) (nI_add _ _) ?_
  refine x_sldN rfl (by omega) (by omega) ?_
  refine run_ok 4 (c' := (789, [(0, .ref 999), (1, .ref 0), (2, .ref 48), (3, .int (nI i))], [.int ((nI i) + (nI 2)), .ref 999, .int (xs (i + 1)), .ref 0], u)) rfl ?_
  refine x_top (v' := nI (i + 2)) (nI_add _ _) ?_
  refine x_sldN rfl (by omega) (by omega) ?_
  refine run_ok 4 (c' := (794, [(0, .ref 999), (1, .ref 0), (2, .ref 48), (3, .int (nI i))], [.int ((nI i) + (nI 3)), .ref 999, .int (xs (i + 2)), .int (xs (i + 1)), .ref 0], u)) rfl ?_
  refine x_top (v' := nI (i + 3)) (nI_add _ _) ?_
  refine x_sldN rfl (by omega) (by omega) ?_
  refine x_callV [.int (xs (i + 1)), .int (xs (i + 2)), .int (xs (i + 3))] rfl cv_N_seen.1 lk_8_101 cv_N_seen.2.1 cv_N_seen.2.2.1 rfl cv_N_seen.2.2.2.1 rfl rfl (Nat.le_of_ble_eq_true rfl) (show D1 + 1 ≤ 12 by omega) cv_N_seen.2.2.2.2 c1 ?_
  rintro r v hv
  obtain ⟨hr, D2, Q2, hD2, c2, kk2⟩ := kk r v hv
  rw [hr]
  refine run_ok 5 (c' := (803, [(0, .ref 999), (1, .ref 0), (2, .ref 48), (3, .int (nI i))], [.int ((nI i) + (nI 1)), .ref 999, .ref 48, .int z], v)) rfl ?_
  refine x_top (v' := nI (i + 1)) (nI_add _ _) ?_
  refine x_sldN rfl (by omega) (by omega) ?_
  refine run_ok 4 (c' := (808, [(0, .ref 999), (1, .ref 0), (2, .ref 48), (3, .int (nI i))], [.int ((nI i) + (nI 2)), .ref 999, .int (xs (i + 1)), .ref 48, .int z], v)) rfl ?_
  refine x_top (v' := nI (i + 2)) (nI_add _ _) ?_
  refine x_sldN rfl (by omega) (by omega) ?_
  refine run_ok 4 (c' := (813, [(0, .ref 999), (1, .ref 0), (2, .ref 48), (3, .int (nI i))], [.int ((nI i) + (nI 3)), .ref 999, .int (xs (i + 2)), .int (xs (i + 1)), .ref 48, .int z], v)) rfl ?_
  refine x_top (v' := nI (i + 3)) (nI_add _ _) ?_
  refine x_sldN rfl (by omega) (by omega) ?_
  refine x_callV [.int (xs (i + 1)), .int (xs (i + 2)), .int (xs (i + 3))] rfl cv_R_seen.1 lk_8_104 cv_R_seen.2.1 cv_R_seen.2.2.1 rfl cv_R_seen.2.2.2.1 rfl rfl (Nat.le_of_ble_eq_true rfl) (show D2 + 1 ≤ 12 by omega) cv_R_seen.2.2.2.2 c2 ?_
  rintro r w hw
  obtain ⟨hr, hJ⟩ := kk2 r w hw
  rw [hr]
  refine x_icmp_eq 1319 rfl rfl (fun h817 => ?_) (fun hn => absurd rfl hn)
  exact K w hJ
theorem lw_22 {L : Nat} {xs : Nat → Int32} {i : Nat} (hL : L ≤ 3072) (hi : i + 6 ≤ L) {u : ST} (hI : INV u) (K : ∀ w, INV w → BX me_L_law 12 (some (L, xs)) QL0 (1319, [(0, .ref 999), (1, .ref 0), (2, .ref 48), (3, .int (nI i))], [], w)) : BX me_L_law 12 (some (L, xs)) QL0 (822, [(0, .ref 999), (1, .ref 0), (2, .ref 48), (3, .int (nI i))], [], u) := by
  obtain ⟨z, D1, Q1, hD1, c1, kk⟩ := pr_forget u hI
  refine run_ok 1 (c' := (823, [(0, .ref 999), (1, .ref 0), (2, .ref 48), (3, .int (nI i))], [.ref 0], u)) rfl ?_
  refine x_callV [] rfl cv_N_forget.1 lk_8_105 cv_N_forget.2.1 cv_N_forget.2.2.1 rfl cv_N_forget.2.2.2.1 rfl rfl (Nat.le_of_ble_eq_true rfl) (show D1 + 1 ≤ 12 by omega) cv_N_forget.2.2.2.2 c1 ?_
  rintro r v hv
  obtain ⟨hr, D2, Q2, hD2, c2, kk2⟩ := kk r v hv
  rw [hr]
  refine run_ok 1 (c' := (827, [(0, .ref 999), (1, .ref 0), (2, .ref 48), (3, .int (nI i))], [.ref 48, .int z], v)) rfl ?_
  refine x_callV [] rfl cv_R_forget.1 lk_8_108 cv_R_forget.2.1 cv_R_forget.2.2.1 rfl cv_R_forget.2.2.2.1 rfl rfl (Nat.le_of_ble_eq_true rfl) (show D2 + 1 ≤ 12 by omega) cv_R_forget.2.2.2.2 c2 ?_
  rintro r w hw
  obtain ⟨hr, hJ⟩ := kk2 r w hw
  rw [hr]
  refine x_icmp_eq 1319 rfl rfl (fun h830 => ?_) (fun hn => absurd rfl hn)
  exact K w hJ
theorem lw_23 {L : Nat} {xs : Nat → Int32} {i : Nat} (hL : L ≤ 3072) (hi : i + 6 ≤ L) {u : ST} (hI : INV u) (K : ∀ w, INV w → BX me_L_law 12 (some (L, xs)) QL0 (1319, [(0, .ref 999), (1, .ref 0), (2, .ref 48), (3, .int (nI i))], [], w)) : BX me_L_law 12 (some (L, xs)) QL0 (835, [(0, .ref 999), (1, .ref 0), (2, .ref 48), (3, .int (nI i))], [], u) := by
  obtain ⟨z, D1, Q1, hD1, c1, kk⟩ := pr_never u hI
  refine run_ok 1 (c' := (836, [(0, .ref 999), (1, .ref 0), (2, .ref 48), (3, .int (nI i))], [.ref 0], u)) rfl ?_
  refine x_callV [] rfl cv_N_never.1 lk_8_109 cv_N_never.2.1 cv_N_never.2.2.1 rfl cv_N_never.2.2.2.1 rfl rfl (Nat.le_of_ble_eq_true rfl) (show D1 + 1 ≤ 12 by omega) cv_N_never.2.2.2.2 c1 ?_
  rintro r v hv
  obtain ⟨hr, D2, Q2, hD2, c2, kk2⟩ := kk r v hv
  rw [hr]
  refine run_ok 1 (c' := (840, [(0, .ref 999), (1, .ref 0), (2, .ref 48), (3, .int (nI i))], [.ref 48, .int z], v)) rfl ?_
  refine x_callV [] rfl cv_R_never.1 lk_8_112 cv_R_never.2.1 cv_R_never.2.2.1 rfl cv_R_never.2.2.2.1 rfl rfl (Nat.le_of_ble_eq_true rfl) (show D2 + 1 ≤ 12 by omega) cv_R_never.2.2.2.2 c2 ?_
  rintro r w hw
  obtain ⟨hr, hJ⟩ := kk2 r w hw
  rw [hr]
  refine x_icmp_eq 1319 rfl rfl (fun h843 => ?_) (fun hn => absurd rfl hn)
  exact K w hJ
theorem lw_24 {L : Nat} {xs : Nat → Int32} {i : Nat} (hL : L ≤ 3072) (hi : i + 6 ≤ L) {u : ST} (hI : INV u) (K : ∀ w, INV w → BX me_L_law 12 (some (L, xs)) QL0 (1319, [(0, .ref 999), (1, .ref 0), (2, .ref 48), (3, .int (nI i))], [], w)) : BX me_L_law 12 (some (L, xs)) QL0 (848, [(0, .ref 999), (1, .ref 0), (2, .ref 48), (3, .int (nI i))], [], u) := by
  obtain ⟨z, D1, Q1, hD1, c1, kk⟩ := pr_sort u hI (xs (i + 1))
  refine run_ok 5 (c' := (853, [(0, .ref 999), (1, .ref 0), (2, .ref 48), (3, .int (nI i))], [.int ((nI i) + (nI 1)), .ref 999, .ref 0], u)) rfl ?_
  refine x_top (v' := nI (i + 1)) (nI_add _ _) ?_
  refine x_sldN rfl (by omega) (by omega) ?_
  refine x_callV [.int (xs (i + 1))] rfl cv_N_sort.1 lk_8_113 cv_N_sort.2.1 cv_N_sort.2.2.1 rfl cv_N_sort.2.2.2.1 rfl rfl (Nat.le_of_ble_eq_true rfl) (show D1 + 1 ≤ 12 by omega) cv_N_sort.2.2.2.2 c1 ?_
  rintro r v hv
  obtain ⟨hr, D2, Q2, hD2, c2, kk2⟩ := kk r v hv
  rw [hr]
  refine run_ok 5 (c' := (862, [(0, .ref 999), (1, .ref 0), (2, .ref 48), (3, .int (nI i))], [.int ((nI i) + (nI 1)), .ref 999, .ref 48, .int z], v)) rfl ?_
  refine x_top (v' := nI (i + 1)) (nI_add _ _) ?_
  refine x_sldN rfl (by omega) (by omega) ?_
  refine x_callV [.int (xs (i + 1))] rfl cv_R_sort.1 lk_8_116 cv_R_sort.2.1 cv_R_sort.2.2.1 rfl cv_R_sort.2.2.2.1 rfl rfl (Nat.le_of_ble_eq_true rfl) (show D2 + 1 ≤ 12 by omega) cv_R_sort.2.2.2.2 c2 ?_
  rintro r w hw
  obtain ⟨hr, hJ⟩ := kk2 r w hw
  rw [hr]
  refine x_icmp_eq 1319 rfl rfl (fun h866 => ?_) (fun hn => absurd rfl hn)
  exact K w hJ
theorem lw_25 {L : Nat} {xs : Nat → Int32} {i : Nat} (hL : L ≤ 3072) (hi : i + 6 ≤ L) {u : ST} (hI : INV u) (K : ∀ w, INV w → BX me_L_law 12 (some (L, xs)) QL0 (1319, [(0, .ref 999), (1, .ref 0), (2, .ref 48), (3, .int (nI i))], [], w)) : BX me_L_law 12 (some (L, xs)) QL0 (871, [(0, .ref 999), (1, .ref 0), (2, .ref 48), (3, .int (nI i))], [], u) := by
  obtain ⟨z, D1, Q1, hD1, c1, kk⟩ := pr_hated u hI (xs (i + 1)) (xs (i + 2))
  refine run_ok 5 (c' := (876, [(0, .ref 999), (1, .ref 0), (2, .ref 48), (3, .int (nI i))], [.int ((nI i) + (nI 1)), .ref 999, .ref 0], u)) rfl ?_
  refine x_top (v' := nI (i + 1)) (nI_add _ _) ?_
  refine x_sldN rfl (by omega) (by omega) ?_
  refine run_ok 4 (c' := (881, [(0, .ref 999), (1, .ref 0), (2, .ref 48), (3, .int (nI i))], [.int ((nI i) + (nI 2)), .ref 999, .int (xs (i + 1)), .ref 0], u)) rfl ?_
  refine x_top (v' := nI (i + 2)) (nI_add _ _) ?_
  refine x_sldN rfl (by omega) (by omega) ?_
  refine x_callV [.int (xs (i + 1)), .int (xs (i + 2))] rfl cv_N_hated.1 lk_8_117 cv_N_hated.2.1 cv_N_hated.2.2.1 rfl cv_N_hated.2.2.2.1 rfl rfl (Nat.le_of_ble_eq_true rfl) (show D1 + 1 ≤ 12 by omega) cv_N_hated.2.2.2.2 c1 ?_
  rintro r v hv
  obtain ⟨hr, D2, Q2, hD2, c2, kk2⟩ := kk r v hv
  rw [hr]
  refine run_ok 5 (c' := (890, [(0, .ref 999), (1, .ref 0), (2, .ref 48), (3, .int (nI i))], [.int ((nI i) + (nI 1)), .ref 999, .ref 48, .int z], v)) rfl ?_
  refine x_top (v' := nI (i + 1)) (nI_add _ _) ?_
  refine x_sldN rfl (by omega) (by omega) ?_
  refine run_ok 4 (c' := (895, [(0, .ref 999), (1, .ref 0), (2, .ref 48), (3, .int (nI i))], [.int ((nI i) + (nI 2)), .ref 999, .int (xs (i + 1)), .ref 48, .int z], v)) rfl ?_
  refine x_top (v' := nI (i + 2)) (nI_add _ _) ?_
  refine x_sldN rfl (by omega) (by omega) ?_
  refine x_callV [.int (xs (i + 1)), .int (xs (i + 2))] rfl cv_R_hated.1 lk_8_120 cv_R_hated.2.1 cv_R_hated.2.2.1 rfl cv_R_hated.2.2.2.1 rfl rfl (Nat.le_of_ble_eq_true rfl) (show D2 + 1 ≤ 12 by omega) cv_R_hated.2.2.2.2 c2 ?_
  rintro r w hw
  obtain ⟨hr, hJ⟩ := kk2 r w hw
  rw [hr]
  refine x_icmp_eq 1319 rfl rfl (fun h899 => ?_) (fun hn => absurd rfl hn)
  exact K w hJ
theorem lw_26 {L : Nat} {xs : Nat → Int32} {i : Nat} (hL : L ≤ 3072) (hi : i + 6 ≤ L) {u : ST} (hI : INV u) (K : ∀ w, INV w → BX me_L_law 12 (some (L, xs)) QL0 (1319, [(0, .ref 999), (1, .ref 0), (2, .ref 48), (3, .int (nI i))], [], w)) : BX me_L_law 12 (some (L, xs)) QL0 (904, [(0, .ref 999), (1, .ref 0), (2, .ref 48), (3, .int (nI i))], [], u) := by
  obtain ⟨z, D1, Q1, hD1, c1, kk⟩ := pr_ask u hI (xs (i + 1)) (xs (i + 2))
  refine run_ok 5 (c' := (909, [(0, .ref 999), (1, .ref 0), (2, .ref 48), (3, .int (nI i))], [.int ((nI i) + (nI 1)), .ref 999, .ref 0], u)) rfl ?_
  refine x_top (v' := nI (i + 1)) (nI_add _ _) ?_
  refine x_sldN rfl (by omega) (by omega) ?_
  refine run_ok 4 (c' := (914, [(0, .ref 999), (1, .ref 0), (2, .ref 48), (3, .int (nI i))], [.int ((nI i) + (nI 2)), .ref 999, .int (xs (i + 1)), .ref 0], u)) rfl ?_
  refine x_top (v' := nI (i + 2)) (nI_add _ _) ?_
  refine x_sldN rfl (by omega) (by omega) ?_
  refine x_callV [.int (xs (i + 1)), .int (xs (i + 2))] rfl cv_N_ask.1 lk_8_121 cv_N_ask.2.1 cv_N_ask.2.2.1 rfl cv_N_ask.2.2.2.1 rfl rfl (Nat.le_of_ble_eq_true rfl) (show D1 + 1 ≤ 12 by omega) cv_N_ask.2.2.2.2 c1 ?_
  rintro r v hv
  obtain ⟨hr, D2, Q2, hD2, c2, kk2⟩ := kk r v hv
  rw [hr]
  refine run_ok 5 (c' := (923, [(0, .ref 999), (1, .ref 0), (2, .ref 48), (3, .int (nI i))], [.int ((nI i) + (nI 1)), .ref 999, .ref 48, .int z], v)) rfl ?_
  refine x_top (v' := nI (i + 1)) (nI_add _ _) ?_
  refine x_sldN rfl (by omega) (by omega) ?_
  refine run_ok 4 (c' := (928, [(0, .ref 999), (1, .ref 0), (2, .ref 48), (3, .int (nI i))], [.int ((nI i) + (nI 2)), .ref 999, .int (xs (i + 1)), .ref 48, .int z], v)) rfl ?_
  refine x_top (v' := nI (i + 2)) (nI_add _ _) ?_
  refine x_sldN rfl (by omega) (by omega) ?_
  refine x_callV [.int (xs (i + 1)), .int (xs (i + 2))] rfl cv_R_ask.1 lk_8_124 cv_R_ask.2.1 cv_R_ask.2.2.1 rfl cv_R_ask.2.2.2.1 rfl rfl (Nat.le_of_ble_eq_true rfl) (show D2 + 1 ≤ 12 by omega) cv_R_ask.2.2.2.2 c2 ?_
  rintro r w hw
  obtain ⟨hr, hJ⟩ := kk2 r w hw
  rw [hr]
  refine x_icmp_eq 1319 rfl rfl (fun h932 => ?_) (fun hn => absurd rfl hn)
  exact K w hJ
theorem lw_27 {L : Nat} {xs : Nat → Int32} {i : Nat} (hL : L ≤ 3072) (hi : i + 6 ≤ L) {u : ST} (hI : INV u) (K : ∀ w, INV w → BX me_L_law 12 (some (L, xs)) QL0 (1319, [(0, .ref 999), (1, .ref 0), (2, .ref 48), (3, .int (nI i))], [], w)) : BX me_L_law 12 (some (L, xs)) QL0 (937, [(0, .ref 999), (1, .ref 0), (2, .ref 48), (3, .int (nI i))], [], u) := by
  obtain ⟨z, D1, Q1, hD1, c1, kk⟩ := pr_chance u hI (xs (i + 1)) (xs (i + 2)) (xs (i + 3))
  refine run_ok 5 (c' := (942, [(0, .ref 999), (1, .ref 0), (2, .ref 48), (3, .int (nI i))], [.int ((nI i) + (nI 1)), .ref 999, .ref 0], u)) rfl ?_
  refine x_top (v' := nI (i + 1)) (nI_add _ _) ?_
  refine x_sldN rfl (by omega) (by omega) ?_
  refine run_ok 4 (c' := (947, [(0, .ref 999), (1, .ref 0), (2, .ref 48), (3, .int (nI i))], [.int ((nI i) + (nI 2)), .ref 999, .int (xs (i + 1)), .ref 0], u)) rfl ?_
  refine x_top (v' := nI (i + 2)) (nI_add _ _) ?_
  refine x_sldN rfl (by omega) (by omega) ?_
  refine run_ok 4 (c' := (952, [(0, .ref 999), (1, .ref 0), (2, .ref 48), (3, .int (nI i))], [.int ((nI i) + (nI 3)), .ref 999, .int (xs (i + 2)), .int (xs (i + 1)), .ref 0], u)) rfl ?_
  refine x_top (v' := nI (i + 3)) (nI_add _ _) ?_
  refine x_sldN rfl (by omega) (by omega) ?_
  refine x_callV [.int (xs (i + 1)), .int (xs (i + 2)), .int (xs (i + 3))] rfl cv_N_chance.1 lk_8_125 cv_N_chance.2.1 cv_N_chance.2.2.1 rfl cv_N_chance.2.2.2.1 rfl rfl (Nat.le_of_ble_eq_true rfl) (show D1 + 1 ≤ 12 by omega) cv_N_chance.2.2.2.2 c1 ?_
  rintro r v hv
  obtain ⟨hr, D2, Q2, hD2, c2, kk2⟩ := kk r v hv
  rw [hr]
  refine run_ok 5 (c' := (961, [(0, .ref 999), (1, .ref 0), (2, .ref 48), (3, .int (nI i))], [.int ((nI i) + (nI 1)), .ref 999, .ref 48, .long z], v)) rfl ?_
  refine x_top (v' := nI (i + 1)) (nI_add _ _) ?_
  refine x_sldN rfl (by omega) (by omega) ?_
  refine run_ok 4 (c' := (966, [(0, .ref 999), (1, .ref 0), (2, .ref 48), (3, .int (nI i))], [.int ((nI i) + (nI 2)), .ref 999, .int (xs (i + 1)), .ref 48, .long z], v)) rfl ?_
  refine x_top (v' := nI (i + 2)) (nI_add _ _) ?_
  refine x_sldN rfl (by omega) (by omega) ?_
  refine run_ok 4 (c' := (971, [(0, .ref 999), (1, .ref 0), (2, .ref 48), (3, .int (nI i))], [.int ((nI i) + (nI 3)), .ref 999, .int (xs (i + 2)), .int (xs (i + 1)), .ref 48, .long z], v)) rfl ?_
  refine x_top (v' := nI (i + 3)) (nI_add _ _) ?_
  refine x_sldN rfl (by omega) (by omega) ?_
  refine x_callV [.int (xs (i + 1)), .int (xs (i + 2)), .int (xs (i + 3))] rfl cv_R_chance.1 lk_8_129 cv_R_chance.2.1 cv_R_chance.2.2.1 rfl cv_R_chance.2.2.2.1 rfl rfl (Nat.le_of_ble_eq_true rfl) (show D2 + 1 ≤ 12 by omega) cv_R_chance.2.2.2.2 c2 ?_
  rintro r w hw
  obtain ⟨hr, hJ⟩ := kk2 r w hw
  rw [hr]
  refine run_ok 1 (c' := (976, [(0, .ref 999), (1, .ref 0), (2, .ref 48), (3, .int (nI i))], [.int (lg_cmp z z)], w)) rfl ?_
  refine x_if_eq 1319 rfl rfl (fun h976 => ?_) (fun hn => absurd lg_self hn)
  exact K w hJ
theorem lw_28 {L : Nat} {xs : Nat → Int32} {i : Nat} (hL : L ≤ 3072) (hi : i + 6 ≤ L) {u : ST} (hI : INV u) (K : ∀ w, INV w → BX me_L_law 12 (some (L, xs)) QL0 (1319, [(0, .ref 999), (1, .ref 0), (2, .ref 48), (3, .int (nI i))], [], w)) : BX me_L_law 12 (some (L, xs)) QL0 (981, [(0, .ref 999), (1, .ref 0), (2, .ref 48), (3, .int (nI i))], [], u) := by
  obtain ⟨z, D1, Q1, hD1, c1, kk⟩ := pr_decades u hI (xs (i + 1)) (xs (i + 2)) (xs (i + 3))
  refine run_ok 5 (c' := (986, [(0, .ref 999), (1, .ref 0), (2, .ref 48), (3, .int (nI i))], [.int ((nI i) + (nI 1)), .ref 999, .ref 0], u)) rfl ?_
  refine x_top (v' := nI (i + 1)) (nI_add _ _) ?_
  refine x_sldN rfl (by omega) (by omega) ?_
  refine run_ok 4 (c' := (991, [(0, .ref 999), (1, .ref 0), (2, .ref 48), (3, .int (nI i))], [.int ((nI i) + (nI 2)), .ref 999, .int (xs (i + 1)), .ref 0], u)) rfl ?_
  refine x_top (v' := nI (i + 2)) (nI_add _ _) ?_
  refine x_sldN rfl (by omega) (by omega) ?_
  refine run_ok 4 (c' := (996, [(0, .ref 999), (1, .ref 0), (2, .ref 48), (3, .int (nI i))], [.int ((nI i) + (nI 3)), .ref 999, .int (xs (i + 2)), .int (xs (i + 1)), .ref 0], u)) rfl ?_
  refine x_top (v' := nI (i + 3)) (nI_add _ _) ?_
  refine x_sldN rfl (by omega) (by omega) ?_
  refine x_callV [.int (xs (i + 1)), .int (xs (i + 2)), .int (xs (i + 3))] rfl cv_N_decades.1 lk_8_130 cv_N_decades.2.1 cv_N_decades.2.2.1 rfl cv_N_decades.2.2.2.1 rfl rfl (Nat.le_of_ble_eq_true rfl) (show D1 + 1 ≤ 12 by omega) cv_N_decades.2.2.2.2 c1 ?_
  rintro r v hv
  obtain ⟨hr, D2, Q2, hD2, c2, kk2⟩ := kk r v hv
  rw [hr]
  refine run_ok 5 (c' := (1005, [(0, .ref 999), (1, .ref 0), (2, .ref 48), (3, .int (nI i))], [.int ((nI i) + (nI 1)), .ref 999, .ref 48, .int z], v)) rfl ?_
  refine x_top (v' := nI (i + 1)) (nI_add _ _) ?_
  refine x_sldN rfl (by omega) (by omega) ?_
  refine run_ok 4 (c' := (1010, [(0, .ref 999), (1, .ref 0), (2, .ref 48), (3, .int (nI i))], [.int ((nI i) + (nI 2)), .ref 999, .int (xs (i + 1)), .ref 48, .int z], v)) rfl ?_
  refine x_top (v' := nI (i + 2)) (nI_add _ _) ?_
  refine x_sldN rfl (by omega) (by omega) ?_
  refine run_ok 4 (c' := (1015, [(0, .ref 999), (1, .ref 0), (2, .ref 48), (3, .int (nI i))], [.int ((nI i) + (nI 3)), .ref 999, .int (xs (i + 2)), .int (xs (i + 1)), .ref 48, .int z], v)) rfl ?_
  refine x_top (v' := nI (i + 3)) (nI_add _ _) ?_
  refine x_sldN rfl (by omega) (by omega) ?_
  refine x_callV [.int (xs (i + 1)), .int (xs (i + 2)), .int (xs (i + 3))] rfl cv_R_decades.1 lk_8_133 cv_R_decades.2.1 cv_R_decades.2.2.1 rfl cv_R_decades.2.2.2.1 rfl rfl (Nat.le_of_ble_eq_true rfl) (show D2 + 1 ≤ 12 by omega) cv_R_decades.2.2.2.2 c2 ?_
  rintro r w hw
  obtain ⟨hr, hJ⟩ := kk2 r w hw
  rw [hr]
  refine x_icmp_eq 1319 rfl rfl (fun h1019 => ?_) (fun hn => absurd rfl hn)
  exact K w hJ
theorem lw_29 {L : Nat} {xs : Nat → Int32} {i : Nat} (hL : L ≤ 3072) (hi : i + 6 ≤ L) {u : ST} (hI : INV u) (K : ∀ w, INV w → BX me_L_law 12 (some (L, xs)) QL0 (1319, [(0, .ref 999), (1, .ref 0), (2, .ref 48), (3, .int (nI i))], [], w)) : BX me_L_law 12 (some (L, xs)) QL0 (1024, [(0, .ref 999), (1, .ref 0), (2, .ref 48), (3, .int (nI i))], [], u) := by
  obtain ⟨z, D1, Q1, hD1, c1, kk⟩ := pr_sheet u hI (xs (i + 1)) (xs (i + 2)) (xs (i + 3))
  refine run_ok 5 (c' := (1029, [(0, .ref 999), (1, .ref 0), (2, .ref 48), (3, .int (nI i))], [.int ((nI i) + (nI 1)), .ref 999, .ref 0], u)) rfl ?_
  refine x_top (v' := nI (i + 1)) (nI_add _ _) ?_
  refine x_sldN rfl (by omega) (by omega) ?_
  refine run_ok 4 (c' := (1034, [(0, .ref 999), (1, .ref 0), (2, .ref 48), (3, .int (nI i))], [.int ((nI i) + (nI 2)), .ref 999, .int (xs (i + 1)), .ref 0], u)) rfl ?_
  refine x_top (v' := nI (i + 2)) (nI_add _ _) ?_
  refine x_sldN rfl (by omega) (by omega) ?_
  refine run_ok 4 (c' := (1039, [(0, .ref 999), (1, .ref 0), (2, .ref 48), (3, .int (nI i))], [.int ((nI i) + (nI 3)), .ref 999, .int (xs (i + 2)), .int (xs (i + 1)), .ref 0], u)) rfl ?_
  refine x_top (v' := nI (i + 3)) (nI_add _ _) ?_
  refine x_sldN rfl (by omega) (by omega) ?_
  refine x_callV [.int (xs (i + 1)), .int (xs (i + 2)), .int (xs (i + 3))] rfl cv_N_sheet.1 lk_8_134 cv_N_sheet.2.1 cv_N_sheet.2.2.1 rfl cv_N_sheet.2.2.2.1 rfl rfl (Nat.le_of_ble_eq_true rfl) (show D1 + 1 ≤ 12 by omega) cv_N_sheet.2.2.2.2 c1 ?_
  rintro r v hv
  obtain ⟨hr, D2, Q2, hD2, c2, kk2⟩ := kk r v hv
  rw [hr]
  refine run_ok 5 (c' := (1048, [(0, .ref 999), (1, .ref 0), (2, .ref 48), (3, .int (nI i))], [.int ((nI i) + (nI 1)), .ref 999, .ref 48, .int z], v)) rfl ?_
  refine x_top (v' := nI (i + 1)) (nI_add _ _) ?_
  refine x_sldN rfl (by omega) (by omega) ?_
  refine run_ok 4 (c' := (1053, [(0, .ref 999), (1, .ref 0), (2, .ref 48), (3, .int (nI i))], [.int ((nI i) + (nI 2)), .ref 999, .int (xs (i + 1)), .ref 48, .int z], v)) rfl ?_
  refine x_top (v' := nI (i + 2)) (nI_add _ _) ?_
  refine x_sldN rfl (by omega) (by omega) ?_
  refine run_ok 4 (c' := (1058, [(0, .ref 999), (1, .ref 0), (2, .ref 48), (3, .int (nI i))], [.int ((nI i) + (nI 3)), .ref 999, .int (xs (i + 2)), .int (xs (i + 1)), .ref 48, .int z], v)) rfl ?_
  refine x_top (v' := nI (i + 3)) (nI_add _ _) ?_
  refine x_sldN rfl (by omega) (by omega) ?_
  refine x_callV [.int (xs (i + 1)), .int (xs (i + 2)), .int (xs (i + 3))] rfl cv_R_sheet.1 lk_8_137 cv_R_sheet.2.1 cv_R_sheet.2.2.1 rfl cv_R_sheet.2.2.2.1 rfl rfl (Nat.le_of_ble_eq_true rfl) (show D2 + 1 ≤ 12 by omega) cv_R_sheet.2.2.2.2 c2 ?_
  rintro r w hw
  obtain ⟨hr, hJ⟩ := kk2 r w hw
  rw [hr]
  refine x_icmp_eq 1319 rfl rfl (fun h1062 => ?_) (fun hn => absurd rfl hn)
  exact K w hJ
theorem lw_30 {L : Nat} {xs : Nat → Int32} {i : Nat} (hL : L ≤ 3072) (hi : i + 6 ≤ L) {u : ST} (hI : INV u) (K : ∀ w, INV w → BX me_L_law 12 (some (L, xs)) QL0 (1319, [(0, .ref 999), (1, .ref 0), (2, .ref 48), (3, .int (nI i))], [], w)) : BX me_L_law 12 (some (L, xs)) QL0 (1067, [(0, .ref 999), (1, .ref 0), (2, .ref 48), (3, .int (nI i))], [], u) := by
  obtain ⟨z, D1, Q1, hD1, c1, kk⟩ := pr_lose u hI (xs (i + 1))
  refine run_ok 5 (c' := (1072, [(0, .ref 999), (1, .ref 0), (2, .ref 48), (3, .int (nI i))], [.int ((nI i) + (nI 1)), .ref 999, .ref 0], u)) rfl ?_
  refine x_top (v' := nI (i + 1)) (nI_add _ _) ?_
  refine x_sldN rfl (by omega) (by omega) ?_
  refine x_callV [.int (xs (i + 1))] rfl cv_N_lose.1 lk_8_138 cv_N_lose.2.1 cv_N_lose.2.2.1 rfl cv_N_lose.2.2.2.1 rfl rfl (Nat.le_of_ble_eq_true rfl) (show D1 + 1 ≤ 12 by omega) cv_N_lose.2.2.2.2 c1 ?_
  rintro r v hv
  obtain ⟨hr, D2, Q2, hD2, c2, kk2⟩ := kk r v hv
  rw [hr]
  refine run_ok 5 (c' := (1081, [(0, .ref 999), (1, .ref 0), (2, .ref 48), (3, .int (nI i))], [.int ((nI i) + (nI 1)), .ref 999, .ref 48, .int z], v)) rfl ?_
  refine x_top (v' := nI (i + 1)) (nI_add _ _) ?_
  refine x_sldN rfl (by omega) (by omega) ?_
  refine x_callV [.int (xs (i + 1))] rfl cv_R_lose.1 lk_8_141 cv_R_lose.2.1 cv_R_lose.2.2.1 rfl cv_R_lose.2.2.2.1 rfl rfl (Nat.le_of_ble_eq_true rfl) (show D2 + 1 ≤ 12 by omega) cv_R_lose.2.2.2.2 c2 ?_
  rintro r w hw
  obtain ⟨hr, hJ⟩ := kk2 r w hw
  rw [hr]
  refine x_icmp_eq 1319 rfl rfl (fun h1085 => ?_) (fun hn => absurd rfl hn)
  exact K w hJ
theorem lw_31 {L : Nat} {xs : Nat → Int32} {i : Nat} (hL : L ≤ 3072) (hi : i + 6 ≤ L) {u : ST} (hI : INV u) (K : ∀ w, INV w → BX me_L_law 12 (some (L, xs)) QL0 (1319, [(0, .ref 999), (1, .ref 0), (2, .ref 48), (3, .int (nI i))], [], w)) : BX me_L_law 12 (some (L, xs)) QL0 (1090, [(0, .ref 999), (1, .ref 0), (2, .ref 48), (3, .int (nI i))], [], u) := by
  obtain ⟨z, D1, Q1, hD1, c1, kk⟩ := pr_put u hI (xs (i + 1)) (xs (i + 2)) (xs (i + 3)) (xs (i + 4))
  refine run_ok 5 (c' := (1095, [(0, .ref 999), (1, .ref 0), (2, .ref 48), (3, .int (nI i))], [.int ((nI i) + (nI 1)), .ref 999, .ref 0], u)) rfl ?_
  refine x_top (v' := nI (i + 1)) (nI_add _ _) ?_
  refine x_sldN rfl (by omega) (by omega) ?_
  refine run_ok 4 (c' := (1100, [(0, .ref 999), (1, .ref 0), (2, .ref 48), (3, .int (nI i))], [.int ((nI i) + (nI 2)), .ref 999, .int (xs (i + 1)), .ref 0], u)) rfl ?_
  refine x_top (v' := nI (i + 2)) (nI_add _ _) ?_
  refine x_sldN rfl (by omega) (by omega) ?_
  refine run_ok 4 (c' := (1105, [(0, .ref 999), (1, .ref 0), (2, .ref 48), (3, .int (nI i))], [.int ((nI i) + (nI 3)), .ref 999, .int (xs (i + 2)), .int (xs (i + 1)), .ref 0], u)) rfl ?_
  refine x_top (v' := nI (i + 3)) (nI_add _ _) ?_
  refine x_sldN rfl (by omega) (by omega) ?_
  refine run_ok 4 (c' := (1110, [(0, .ref 999), (1, .ref 0), (2, .ref 48), (3, .int (nI i))], [.int ((nI i) + (nI 4)), .ref 999, .int (xs (i + 3)), .int (xs (i + 2)), .int (xs (i + 1)), .ref 0], u)) rfl ?_
  refine x_top (v' := nI (i + 4)) (nI_add _ _) ?_
  refine x_sldN rfl (by omega) (by omega) ?_
  refine x_callV [.int (xs (i + 1)), .int (xs (i + 2)), .int (xs (i + 3)), .int (xs (i + 4))] rfl cv_N_put.1 lk_8_142 cv_N_put.2.1 cv_N_put.2.2.1 rfl cv_N_put.2.2.2.1 rfl rfl (Nat.le_of_ble_eq_true rfl) (show D1 + 1 ≤ 12 by omega) cv_N_put.2.2.2.2 c1 ?_
  rintro r v hv
  obtain ⟨hr, D2, Q2, hD2, c2, kk2⟩ := kk r v hv
  rw [hr]
  refine run_ok 5 (c' := (1119, [(0, .ref 999), (1, .ref 0), (2, .ref 48), (3, .int (nI i))], [.int ((nI i) + (nI 1)), .ref 999, .ref 48, .int z], v)) rfl ?_
  refine x_top (v' := nI (i + 1)) (nI_add _ _) ?_
  refine x_sldN rfl (by omega) (by omega) ?_
  refine run_ok 4 (c' := (1124, [(0, .ref 999), (1, .ref 0), (2, .ref 48), (3, .int (nI i))], [.int ((nI i) + (nI 2)), .ref 999, .int (xs (i + 1)), .ref 48, .int z], v)) rfl ?_
  refine x_top (v' := nI (i + 2)) (nI_add _ _) ?_
  refine x_sldN rfl (by omega) (by omega) ?_
  refine run_ok 4 (c' := (1129, [(0, .ref 999), (1, .ref 0), (2, .ref 48), (3, .int (nI i))], [.int ((nI i) + (nI 3)), .ref 999, .int (xs (i + 2)), .int (xs (i + 1)), .ref 48, .int z], v)) rfl ?_
  refine x_top (v' := nI (i + 3)) (nI_add _ _) ?_
  refine x_sldN rfl (by omega) (by omega) ?_
  refine run_ok 4 (c' := (1134, [(0, .ref 999), (1, .ref 0), (2, .ref 48), (3, .int (nI i))], [.int ((nI i) + (nI 4)), .ref 999, .int (xs (i + 3)), .int (xs (i + 2)), .int (xs (i + 1)), .ref 48, .int z], v)) rfl ?_
  refine x_top (v' := nI (i + 4)) (nI_add _ _) ?_
  refine x_sldN rfl (by omega) (by omega) ?_
  refine x_callV [.int (xs (i + 1)), .int (xs (i + 2)), .int (xs (i + 3)), .int (xs (i + 4))] rfl cv_R_put.1 lk_8_146 cv_R_put.2.1 cv_R_put.2.2.1 rfl cv_R_put.2.2.2.1 rfl rfl (Nat.le_of_ble_eq_true rfl) (show D2 + 1 ≤ 12 by omega) cv_R_put.2.2.2.2 c2 ?_
  rintro r w hw
  obtain ⟨hr, hJ⟩ := kk2 r w hw
  rw [hr]
  refine x_icmp_eq 1319 rfl rfl (fun h1138 => ?_) (fun hn => absurd rfl hn)
  exact K w hJ
theorem lw_32 {L : Nat} {xs : Nat → Int32} {i : Nat} (hL : L ≤ 3072) (hi : i + 6 ≤ L) {u : ST} (hI : INV u) (K : ∀ w, INV w → BX me_L_law 12 (some (L, xs)) QL0 (1319, [(0, .ref 999), (1, .ref 0), (2, .ref 48), (3, .int (nI i))], [], w)) : BX me_L_law 12 (some (L, xs)) QL0 (1143, [(0, .ref 999), (1, .ref 0), (2, .ref 48), (3, .int (nI i))], [], u) := by
  obtain ⟨z, D1, Q1, hD1, c1, kk⟩ := pr_get u hI (xs (i + 1)) (xs (i + 2)) (xs (i + 3))
  refine run_ok 5 (c' := (1148, [(0, .ref 999), (1, .ref 0), (2, .ref 48), (3, .int (nI i))], [.int ((nI i) + (nI 1)), .ref 999, .ref 0], u)) rfl ?_
  refine x_top (v' := nI (i + 1)) (nI_add _ _) ?_
  refine x_sldN rfl (by omega) (by omega) ?_
  refine run_ok 4 (c' := (1153, [(0, .ref 999), (1, .ref 0), (2, .ref 48), (3, .int (nI i))], [.int ((nI i) + (nI 2)), .ref 999, .int (xs (i + 1)), .ref 0], u)) rfl ?_
  refine x_top (v' := nI (i + 2)) (nI_add _ _) ?_
  refine x_sldN rfl (by omega) (by omega) ?_
  refine run_ok 4 (c' := (1158, [(0, .ref 999), (1, .ref 0), (2, .ref 48), (3, .int (nI i))], [.int ((nI i) + (nI 3)), .ref 999, .int (xs (i + 2)), .int (xs (i + 1)), .ref 0], u)) rfl ?_
  refine x_top (v' := nI (i + 3)) (nI_add _ _) ?_
  refine x_sldN rfl (by omega) (by omega) ?_
  refine x_callV [.int (xs (i + 1)), .int (xs (i + 2)), .int (xs (i + 3))] rfl cv_N_get.1 lk_8_147 cv_N_get.2.1 cv_N_get.2.2.1 rfl cv_N_get.2.2.2.1 rfl rfl (Nat.le_of_ble_eq_true rfl) (show D1 + 1 ≤ 12 by omega) cv_N_get.2.2.2.2 c1 ?_
  rintro r v hv
  obtain ⟨hr, D2, Q2, hD2, c2, kk2⟩ := kk r v hv
  rw [hr]
  refine run_ok 5 (c' := (1167, [(0, .ref 999), (1, .ref 0), (2, .ref 48), (3, .int (nI i))], [.int ((nI i) + (nI 1)), .ref 999, .ref 48, .int z], v)) rfl ?_
  refine x_top (v' := nI (i + 1)) (nI_add _ _) ?_
  refine x_sldN rfl (by omega) (by omega) ?_
  refine run_ok 4 (c' := (1172, [(0, .ref 999), (1, .ref 0), (2, .ref 48), (3, .int (nI i))], [.int ((nI i) + (nI 2)), .ref 999, .int (xs (i + 1)), .ref 48, .int z], v)) rfl ?_
  refine x_top (v' := nI (i + 2)) (nI_add _ _) ?_
  refine x_sldN rfl (by omega) (by omega) ?_
  refine run_ok 4 (c' := (1177, [(0, .ref 999), (1, .ref 0), (2, .ref 48), (3, .int (nI i))], [.int ((nI i) + (nI 3)), .ref 999, .int (xs (i + 2)), .int (xs (i + 1)), .ref 48, .int z], v)) rfl ?_
  refine x_top (v' := nI (i + 3)) (nI_add _ _) ?_
  refine x_sldN rfl (by omega) (by omega) ?_
  refine x_callV [.int (xs (i + 1)), .int (xs (i + 2)), .int (xs (i + 3))] rfl cv_R_get.1 lk_8_150 cv_R_get.2.1 cv_R_get.2.2.1 rfl cv_R_get.2.2.2.1 rfl rfl (Nat.le_of_ble_eq_true rfl) (show D2 + 1 ≤ 12 by omega) cv_R_get.2.2.2.2 c2 ?_
  rintro r w hw
  obtain ⟨hr, hJ⟩ := kk2 r w hw
  rw [hr]
  refine x_icmp_eq 1319 rfl rfl (fun h1181 => ?_) (fun hn => absurd rfl hn)
  exact K w hJ
theorem lw_33 {L : Nat} {xs : Nat → Int32} {i : Nat} (hL : L ≤ 3072) (hi : i + 6 ≤ L) {u : ST} (hI : INV u) (K : ∀ w, INV w → BX me_L_law 12 (some (L, xs)) QL0 (1319, [(0, .ref 999), (1, .ref 0), (2, .ref 48), (3, .int (nI i))], [], w)) : BX me_L_law 12 (some (L, xs)) QL0 (1186, [(0, .ref 999), (1, .ref 0), (2, .ref 48), (3, .int (nI i))], [], u) := by
  obtain ⟨z, D1, Q1, hD1, c1, kk⟩ := pr_copy u hI (xs (i + 1)) (xs (i + 2)) (xs (i + 3)) (xs (i + 4)) (xs (i + 5))
  refine run_ok 5 (c' := (1191, [(0, .ref 999), (1, .ref 0), (2, .ref 48), (3, .int (nI i))], [.int ((nI i) + (nI 1)), .ref 999, .ref 0], u)) rfl ?_
  refine x_top (v' := nI (i + 1)) (nI_add _ _) ?_
  refine x_sldN rfl (by omega) (by omega) ?_
  refine run_ok 4 (c' := (1196, [(0, .ref 999), (1, .ref 0), (2, .ref 48), (3, .int (nI i))], [.int ((nI i) + (nI 2)), .ref 999, .int (xs (i + 1)), .ref 0], u)) rfl ?_
  refine x_top (v' := nI (i + 2)) (nI_add _ _) ?_
  refine x_sldN rfl (by omega) (by omega) ?_
  refine run_ok 4 (c' := (1201, [(0, .ref 999), (1, .ref 0), (2, .ref 48), (3, .int (nI i))], [.int ((nI i) + (nI 3)), .ref 999, .int (xs (i + 2)), .int (xs (i + 1)), .ref 0], u)) rfl ?_
  refine x_top (v' := nI (i + 3)) (nI_add _ _) ?_
  refine x_sldN rfl (by omega) (by omega) ?_
  refine run_ok 4 (c' := (1206, [(0, .ref 999), (1, .ref 0), (2, .ref 48), (3, .int (nI i))], [.int ((nI i) + (nI 4)), .ref 999, .int (xs (i + 3)), .int (xs (i + 2)), .int (xs (i + 1)), .ref 0], u)) rfl ?_
  refine x_top (v' := nI (i + 4)) (nI_add _ _) ?_
  refine x_sldN rfl (by omega) (by omega) ?_
  refine run_ok 4 (c' := (1211, [(0, .ref 999), (1, .ref 0), (2, .ref 48), (3, .int (nI i))], [.int ((nI i) + (nI 5)), .ref 999, .int (xs (i + 4)), .int (xs (i + 3)), .int (xs (i + 2)), .int (xs (i + 1)), .ref 0], u)) rfl ?_
  refine x_top (v' := nI (i + 5)) (nI_add _ _) ?_
  refine x_sldN rfl (by omega) (by omega) ?_
  refine x_callV [.int (xs (i + 1)), .int (xs (i + 2)), .int (xs (i + 3)), .int (xs (i + 4)), .int (xs (i + 5))] rfl cv_N_copy.1 lk_8_151 cv_N_copy.2.1 cv_N_copy.2.2.1 rfl cv_N_copy.2.2.2.1 rfl rfl (Nat.le_of_ble_eq_true rfl) (show D1 + 1 ≤ 12 by omega) cv_N_copy.2.2.2.2 c1 ?_
  rintro r v hv
  obtain ⟨hr, D2, Q2, hD2, c2, kk2⟩ := kk r v hv
  rw [hr]
  refine run_ok 5 (c' := (1220, [(0, .ref 999), (1, .ref 0), (2, .ref 48), (3, .int (nI i))], [.int ((nI i) + (nI 1)), .ref 999, .ref 48, .int z], v)) rfl ?_
  refine x_top (v' := nI (i + 1)) (nI_add _ _) ?_
  refine x_sldN rfl (by omega) (by omega) ?_
  refine run_ok 4 (c' := (1225, [(0, .ref 999), (1, .ref 0), (2, .ref 48), (3, .int (nI i))], [.int ((nI i) + (nI 2)), .ref 999, .int (xs (i + 1)), .ref 48, .int z], v)) rfl ?_
  refine x_top (v' := nI (i + 2)) (nI_add _ _) ?_
  refine x_sldN rfl (by omega) (by omega) ?_
  refine run_ok 4 (c' := (1230, [(0, .ref 999), (1, .ref 0), (2, .ref 48), (3, .int (nI i))], [.int ((nI i) + (nI 3)), .ref 999, .int (xs (i + 2)), .int (xs (i + 1)), .ref 48, .int z], v)) rfl ?_
  refine x_top (v' := nI (i + 3)) (nI_add _ _) ?_
  refine x_sldN rfl (by omega) (by omega) ?_
  refine run_ok 4 (c' := (1235, [(0, .ref 999), (1, .ref 0), (2, .ref 48), (3, .int (nI i))], [.int ((nI i) + (nI 4)), .ref 999, .int (xs (i + 3)), .int (xs (i + 2)), .int (xs (i + 1)), .ref 48, .int z], v)) rfl ?_
  refine x_top (v' := nI (i + 4)) (nI_add _ _) ?_
  refine x_sldN rfl (by omega) (by omega) ?_
  refine run_ok 4 (c' := (1240, [(0, .ref 999), (1, .ref 0), (2, .ref 48), (3, .int (nI i))], [.int ((nI i) + (nI 5)), .ref 999, .int (xs (i + 4)), .int (xs (i + 3)), .int (xs (i + 2)), .int (xs (i + 1)), .ref 48, .int z], v)) rfl ?_
  refine x_top (v' := nI (i + 5)) (nI_add _ _) ?_
  refine x_sldN rfl (by omega) (by omega) ?_
  refine x_callV [.int (xs (i + 1)), .int (xs (i + 2)), .int (xs (i + 3)), .int (xs (i + 4)), .int (xs (i + 5))] rfl cv_R_copy.1 lk_8_155 cv_R_copy.2.1 cv_R_copy.2.2.1 rfl cv_R_copy.2.2.2.1 rfl rfl (Nat.le_of_ble_eq_true rfl) (show D2 + 1 ≤ 12 by omega) cv_R_copy.2.2.2.2 c2 ?_
  rintro r w hw
  obtain ⟨hr, hJ⟩ := kk2 r w hw
  rw [hr]
  refine x_icmp_eq 1319 rfl rfl (fun h1244 => ?_) (fun hn => absurd rfl hn)
  exact K w hJ
theorem lw_34 {L : Nat} {xs : Nat → Int32} {i : Nat} (hL : L ≤ 3072) (hi : i + 6 ≤ L) {u : ST} (hI : INV u) (K : ∀ w, INV w → BX me_L_law 12 (some (L, xs)) QL0 (1319, [(0, .ref 999), (1, .ref 0), (2, .ref 48), (3, .int (nI i))], [], w)) : BX me_L_law 12 (some (L, xs)) QL0 (1249, [(0, .ref 999), (1, .ref 0), (2, .ref 48), (3, .int (nI i))], [], u) := by
  obtain ⟨z, D1, Q1, hD1, c1, kk⟩ := pr_write u hI (xs (i + 1)) (xs (i + 2))
  refine run_ok 5 (c' := (1254, [(0, .ref 999), (1, .ref 0), (2, .ref 48), (3, .int (nI i))], [.int ((nI i) + (nI 1)), .ref 999, .ref 0], u)) rfl ?_
  refine x_top (v' := nI (i + 1)) (nI_add _ _) ?_
  refine x_sldN rfl (by omega) (by omega) ?_
  refine run_ok 4 (c' := (1259, [(0, .ref 999), (1, .ref 0), (2, .ref 48), (3, .int (nI i))], [.int ((nI i) + (nI 2)), .ref 999, .int (xs (i + 1)), .ref 0], u)) rfl ?_
  refine x_top (v' := nI (i + 2)) (nI_add _ _) ?_
  refine x_sldN rfl (by omega) (by omega) ?_
  refine x_callV [.int (xs (i + 1)), .int (xs (i + 2))] rfl cv_N_write.1 lk_8_156 cv_N_write.2.1 cv_N_write.2.2.1 rfl cv_N_write.2.2.2.1 rfl rfl (Nat.le_of_ble_eq_true rfl) (show D1 + 1 ≤ 12 by omega) cv_N_write.2.2.2.2 c1 ?_
  rintro r v hv
  obtain ⟨hr, D2, Q2, hD2, c2, kk2⟩ := kk r v hv
  rw [hr]
  refine run_ok 5 (c' := (1268, [(0, .ref 999), (1, .ref 0), (2, .ref 48), (3, .int (nI i))], [.int ((nI i) + (nI 1)), .ref 999, .ref 48, .int z], v)) rfl ?_
  refine x_top (v' := nI (i + 1)) (nI_add _ _) ?_
  refine x_sldN rfl (by omega) (by omega) ?_
  refine run_ok 4 (c' := (1273, [(0, .ref 999), (1, .ref 0), (2, .ref 48), (3, .int (nI i))], [.int ((nI i) + (nI 2)), .ref 999, .int (xs (i + 1)), .ref 48, .int z], v)) rfl ?_
  refine x_top (v' := nI (i + 2)) (nI_add _ _) ?_
  refine x_sldN rfl (by omega) (by omega) ?_
  refine x_callV [.int (xs (i + 1)), .int (xs (i + 2))] rfl cv_R_write.1 lk_8_159 cv_R_write.2.1 cv_R_write.2.2.1 rfl cv_R_write.2.2.2.1 rfl rfl (Nat.le_of_ble_eq_true rfl) (show D2 + 1 ≤ 12 by omega) cv_R_write.2.2.2.2 c2 ?_
  rintro r w hw
  obtain ⟨hr, hJ⟩ := kk2 r w hw
  rw [hr]
  refine x_icmp_eq 1319 rfl rfl (fun h1277 => ?_) (fun hn => absurd rfl hn)
  exact K w hJ
theorem lw_35 {L : Nat} {xs : Nat → Int32} {i : Nat} (hL : L ≤ 3072) (hi : i + 6 ≤ L) {u : ST} (hI : INV u) (K : ∀ w, INV w → BX me_L_law 12 (some (L, xs)) QL0 (1319, [(0, .ref 999), (1, .ref 0), (2, .ref 48), (3, .int (nI i))], [], w)) : BX me_L_law 12 (some (L, xs)) QL0 (1282, [(0, .ref 999), (1, .ref 0), (2, .ref 48), (3, .int (nI i))], [], u) := by
  obtain ⟨z, D1, Q1, hD1, c1, kk⟩ := pr_count u hI (xs (i + 1))
  refine run_ok 5 (c' := (1287, [(0, .ref 999), (1, .ref 0), (2, .ref 48), (3, .int (nI i))], [.int ((nI i) + (nI 1)), .ref 999, .ref 0], u)) rfl ?_
  refine x_top (v' := nI (i + 1)) (nI_add _ _) ?_
  refine x_sldN rfl (by omega) (by omega) ?_
  refine x_callV [.int (xs (i + 1))] rfl cv_N_count.1 lk_8_160 cv_N_count.2.1 cv_N_count.2.2.1 rfl cv_N_count.2.2.2.1 rfl rfl (Nat.le_of_ble_eq_true rfl) (show D1 + 1 ≤ 12 by omega) cv_N_count.2.2.2.2 c1 ?_
  rintro r v hv
  obtain ⟨hr, D2, Q2, hD2, c2, kk2⟩ := kk r v hv
  rw [hr]
  refine run_ok 5 (c' := (1296, [(0, .ref 999), (1, .ref 0), (2, .ref 48), (3, .int (nI i))], [.int ((nI i) + (nI 1)), .ref 999, .ref 48, .int z], v)) rfl ?_
  refine x_top (v' := nI (i + 1)) (nI_add _ _) ?_
  refine x_sldN rfl (by omega) (by omega) ?_
  refine x_callV [.int (xs (i + 1))] rfl cv_R_count.1 lk_8_163 cv_R_count.2.1 cv_R_count.2.2.1 rfl cv_R_count.2.2.2.1 rfl rfl (Nat.le_of_ble_eq_true rfl) (show D2 + 1 ≤ 12 by omega) cv_R_count.2.2.2.2 c2 ?_
  rintro r w hw
  obtain ⟨hr, hJ⟩ := kk2 r w hw
  rw [hr]
  refine x_icmp_eq 1319 rfl rfl (fun h1300 => ?_) (fun hn => absurd rfl hn)
  exact K w hJ
theorem lw_36 {L : Nat} {xs : Nat → Int32} {i : Nat} (hL : L ≤ 3072) (hi : i + 6 ≤ L) {u : ST} (hI : INV u) (K : ∀ w, INV w → BX me_L_law 12 (some (L, xs)) QL0 (1319, [(0, .ref 999), (1, .ref 0), (2, .ref 48), (3, .int (nI i))], [], w)) : BX me_L_law 12 (some (L, xs)) QL0 (1305, [(0, .ref 999), (1, .ref 0), (2, .ref 48), (3, .int (nI i))], [], u) := by
  obtain ⟨z, D1, Q1, hD1, c1, kk⟩ := pr_digest u hI
  refine run_ok 1 (c' := (1306, [(0, .ref 999), (1, .ref 0), (2, .ref 48), (3, .int (nI i))], [.ref 0], u)) rfl ?_
  refine x_callV [] rfl cv_N_digest.1 lk_8_164 cv_N_digest.2.1 cv_N_digest.2.2.1 rfl cv_N_digest.2.2.2.1 rfl rfl (Nat.le_of_ble_eq_true rfl) (show D1 + 1 ≤ 12 by omega) cv_N_digest.2.2.2.2 c1 ?_
  rintro r v hv
  obtain ⟨hr, D2, Q2, hD2, c2, kk2⟩ := kk r v hv
  rw [hr]
  refine run_ok 1 (c' := (1310, [(0, .ref 999), (1, .ref 0), (2, .ref 48), (3, .int (nI i))], [.ref 48, .long z], v)) rfl ?_
  refine x_callV [] rfl cv_R_digest.1 lk_8_168 cv_R_digest.2.1 cv_R_digest.2.2.1 rfl cv_R_digest.2.2.2.1 rfl rfl (Nat.le_of_ble_eq_true rfl) (show D2 + 1 ≤ 12 by omega) cv_R_digest.2.2.2.2 c2 ?_
  rintro r w hw
  obtain ⟨hr, hJ⟩ := kk2 r w hw
  rw [hr]
  refine run_ok 1 (c' := (1314, [(0, .ref 999), (1, .ref 0), (2, .ref 48), (3, .int (nI i))], [.int (lg_cmp z z)], w)) rfl ?_
  refine x_if_eq 1319 rfl rfl (fun h1314 => ?_) (fun hn => absurd lg_self hn)
  exact K w hJ
theorem lw_out {L i : Nat} (hL : L ≤ 3072) (h : ¬ i + 6 ≤ L) (hi : i < 2147483648) : nI i > nI L - nI 6 := by
  by_cases h6 : 6 ≤ L
  · rw [pk_sub h6]
    exact (nI_ltI (by omega) hi).mpr (by omega)
  · exact Int32.lt_of_lt_of_le (pk_sneg (by omega) (by omega)) (nI_pos' hi)
theorem lw_in {L i : Nat} (hL : L ≤ 3072) (h : i + 6 ≤ L) : ¬ nI i > nI L - nI 6 := by
  rw [pk_sub (by omega)]
  exact fun z => absurd ((nI_ltI (by omega) (by omega)).mp z) (by omega)
set_option maxHeartbeats 2000000 in
theorem lw_loop {L : Nat} {xs : Nat → Int32} (hL : L ≤ 3072) : ∀ m i, L - i ≤ m → i < 4000 → ∀ u, INV u → BX me_L_law 12 (some (L, xs)) QL0 (18, [(0, .ref 999), (1, .ref 0), (2, .ref 48), (3, .int (nI i))], [], u) := by
  intro m
  induction m with
  | zero =>
    intro i hm h4 u hI
    have hn6 : ¬ i + 6 ≤ L := by omega
    refine run_ok 2 (c' := (20, [(0, .ref 999), (1, .ref 0), (2, .ref 48), (3, .int (nI i))], [.ref 999, .int (nI i)], u)) rfl ?_
    refine x_slen rfl ?_
    refine run_ok 2 (c' := (24, [(0, .ref 999), (1, .ref 0), (2, .ref 48), (3, .int (nI i))], [.int ((nI L) - (nI 6)), .int (nI i)], u)) rfl ?_
    refine x_icmp_gt 1325 rfl rfl (fun h24 => ?_) (fun hn => absurd (lw_out hL hn6 (by omega)) hn)
    refine run_ok 1 (c' := (1326, [(0, .ref 999), (1, .ref 0), (2, .ref 48), (3, .int (nI i))], [.int (nI 1)], u)) rfl ?_
    exact x_ret (r := some (.int (nI 1))) rfl rfl (Or.inr rfl) rfl rfl
  | succ m ih0 =>
    intro i hm h4 u hI
    by_cases hn6 : i + 6 ≤ L
    · have ih : ∀ k, k = i + 6 → ∀ u, INV u → BX me_L_law 12 (some (L, xs)) QL0 (18, [(0, .ref 999), (1, .ref 0), (2, .ref 48), (3, .int (nI k))], [], u) := fun k hk u h => ih0 k (by omega) (by omega) u h
      refine run_ok 2 (c' := (20, [(0, .ref 999), (1, .ref 0), (2, .ref 48), (3, .int (nI i))], [.ref 999, .int (nI i)], u)) rfl ?_
      refine x_slen rfl ?_
      refine run_ok 2 (c' := (24, [(0, .ref 999), (1, .ref 0), (2, .ref 48), (3, .int (nI i))], [.int ((nI L) - (nI 6)), .int (nI i)], u)) rfl ?_
      refine x_icmp_gt 1325 rfl rfl (fun hn => absurd hn (lw_in hL hn6)) (fun h24 => ?_)
      refine run_ok 2 (c' := (29, [(0, .ref 999), (1, .ref 0), (2, .ref 48), (3, .int (nI i))], [.int (nI i), .ref 999], u)) rfl ?_
      refine x_sldN rfl (by omega) (by omega) ?_
      refine run_ok 2 (c' := (33, [(0, .ref 999), (1, .ref 0), (2, .ref 48), (3, .int (nI i))], [.int ((xs i) &&& (nI 63))], u)) rfl ?_
      obtain ⟨j, hj, ej⟩ := and63 (xs i)
      refine x_top (v' := nI j) ej ?_
      have K : ∀ w, INV w → BX me_L_law 12 (some (L, xs)) QL0 (1319, [(0, .ref 999), (1, .ref 0), (2, .ref 48), (3, .int (nI i))], [], w) := by
        intro w hw
        refine run_ok 1 (c' := (1322, [(0, .ref 999), (1, .ref 0), (2, .ref 48), (3, .int (nI i + nI 6))], [], w)) rfl ?_
        rw [nI_add i 6]
        refine run_ok 1 (c' := (18, [(0, .ref 999), (1, .ref 0), (2, .ref 48), (3, .int (nI (i + 6)))], [], w)) rfl ?_
        exact ih (i + 6) (by omega) w hw
      by_cases h37 : 36 < j
      · refine x_tabOut 1319 rfl (Or.inr (by rw [nI_toInt (by omega)]; omega)) rfl ?_
        exact K u hI
      · rcases (show j = 0 ∨ j = 1 ∨ j = 2 ∨ j = 3 ∨ j = 4 ∨ j = 5 ∨ j = 6 ∨ j = 7 ∨ j = 8 ∨ j = 9 ∨ j = 10 ∨ j = 11 ∨ j = 12 ∨ j = 13 ∨ j = 14 ∨ j = 15 ∨ j = 16 ∨ j = 17 ∨ j = 18 ∨ j = 19 ∨ j = 20 ∨ j = 21 ∨ j = 22 ∨ j = 23 ∨ j = 24 ∨ j = 25 ∨ j = 26 ∨ j = 27 ∨ j = 28 ∨ j = 29 ∨ j = 30 ∨ j = 31 ∨ j = 32 ∨ j = 33 ∨ j = 34 ∨ j = 35 ∨ j = 36 by omega) with rfl | rfl | rfl | rfl | rfl | rfl | rfl | rfl | rfl | rfl | rfl | rfl | rfl | rfl | rfl | rfl | rfl | rfl | rfl | rfl | rfl | rfl | rfl | rfl | rfl | rfl | rfl | rfl | rfl | rfl | rfl | rfl | rfl | rfl | rfl | rfl | rfl
        · refine x_tabIn 196 rfl (by decide) (by decide) rfl rfl ?_
          exact lw_0 hL hn6 hI K
        · refine x_tabIn 229 rfl (by decide) (by decide) rfl rfl ?_
          exact lw_1 hL hn6 hI K
        · refine x_tabIn 252 rfl (by decide) (by decide) rfl rfl ?_
          exact lw_2 hL hn6 hI K
        · refine x_tabIn 275 rfl (by decide) (by decide) rfl rfl ?_
          exact lw_3 hL hn6 hI K
        · refine x_tabIn 298 rfl (by decide) (by decide) rfl rfl ?_
          exact lw_4 hL hn6 hI K
        · refine x_tabIn 331 rfl (by decide) (by decide) rfl rfl ?_
          exact lw_5 hL hn6 hI K
        · refine x_tabIn 364 rfl (by decide) (by decide) rfl rfl ?_
          exact lw_6 hL hn6 hI K
        · refine x_tabIn 407 rfl (by decide) (by decide) rfl rfl ?_
          exact lw_7 hL hn6 hI K
        · refine x_tabIn 420 rfl (by decide) (by decide) rfl rfl ?_
          exact lw_8 hL hn6 hI K
        · refine x_tabIn 443 rfl (by decide) (by decide) rfl rfl ?_
          exact lw_9 hL hn6 hI K
        · refine x_tabIn 486 rfl (by decide) (by decide) rfl rfl ?_
          exact lw_10 hL hn6 hI K
        · refine x_tabIn 529 rfl (by decide) (by decide) rfl rfl ?_
          exact lw_11 hL hn6 hI K
        · refine x_tabIn 552 rfl (by decide) (by decide) rfl rfl ?_
          exact lw_12 hL hn6 hI K
        · refine x_tabIn 585 rfl (by decide) (by decide) rfl rfl ?_
          exact lw_13 hL hn6 hI K
        · refine x_tabIn 608 rfl (by decide) (by decide) rfl rfl ?_
          exact lw_14 hL hn6 hI K
        · refine x_tabIn 621 rfl (by decide) (by decide) rfl rfl ?_
          exact lw_15 hL hn6 hI K
        · refine x_tabIn 634 rfl (by decide) (by decide) rfl rfl ?_
          exact lw_16 hL hn6 hI K
        · refine x_tabIn 657 rfl (by decide) (by decide) rfl rfl ?_
          exact lw_17 hL hn6 hI K
        · refine x_tabIn 690 rfl (by decide) (by decide) rfl rfl ?_
          exact lw_18 hL hn6 hI K
        · refine x_tabIn 723 rfl (by decide) (by decide) rfl rfl ?_
          exact lw_19 hL hn6 hI K
        · refine x_tabIn 756 rfl (by decide) (by decide) rfl rfl ?_
          exact lw_20 hL hn6 hI K
        · refine x_tabIn 779 rfl (by decide) (by decide) rfl rfl ?_
          exact lw_21 hL hn6 hI K
        · refine x_tabIn 822 rfl (by decide) (by decide) rfl rfl ?_
          exact lw_22 hL hn6 hI K
        · refine x_tabIn 835 rfl (by decide) (by decide) rfl rfl ?_
          exact lw_23 hL hn6 hI K
        · refine x_tabIn 848 rfl (by decide) (by decide) rfl rfl ?_
          exact lw_24 hL hn6 hI K
        · refine x_tabIn 871 rfl (by decide) (by decide) rfl rfl ?_
          exact lw_25 hL hn6 hI K
        · refine x_tabIn 904 rfl (by decide) (by decide) rfl rfl ?_
          exact lw_26 hL hn6 hI K
        · refine x_tabIn 937 rfl (by decide) (by decide) rfl rfl ?_
          exact lw_27 hL hn6 hI K
        · refine x_tabIn 981 rfl (by decide) (by decide) rfl rfl ?_
          exact lw_28 hL hn6 hI K
        · refine x_tabIn 1024 rfl (by decide) (by decide) rfl rfl ?_
          exact lw_29 hL hn6 hI K
        · refine x_tabIn 1067 rfl (by decide) (by decide) rfl rfl ?_
          exact lw_30 hL hn6 hI K
        · refine x_tabIn 1090 rfl (by decide) (by decide) rfl rfl ?_
          exact lw_31 hL hn6 hI K
        · refine x_tabIn 1143 rfl (by decide) (by decide) rfl rfl ?_
          exact lw_32 hL hn6 hI K
        · refine x_tabIn 1186 rfl (by decide) (by decide) rfl rfl ?_
          exact lw_33 hL hn6 hI K
        · refine x_tabIn 1249 rfl (by decide) (by decide) rfl rfl ?_
          exact lw_34 hL hn6 hI K
        · refine x_tabIn 1282 rfl (by decide) (by decide) rfl rfl ?_
          exact lw_35 hL hn6 hI K
        · refine x_tabIn 1305 rfl (by decide) (by decide) rfl rfl ?_
          exact lw_36 hL hn6 hI K
    · skip
      refine run_ok 2 (c' := (20, [(0, .ref 999), (1, .ref 0), (2, .ref 48), (3, .int (nI i))], [.ref 999, .int (nI i)], u)) rfl ?_
      refine x_slen rfl ?_
      refine run_ok 2 (c' := (24, [(0, .ref 999), (1, .ref 0), (2, .ref 48), (3, .int (nI i))], [.int ((nI L) - (nI 6)), .int (nI i)], u)) rfl ?_
      refine x_icmp_gt 1325 rfl rfl (fun h24 => ?_) (fun hn => absurd (lw_out hL hn6 (by omega)) hn)
      refine run_ok 1 (c' := (1326, [(0, .ref 999), (1, .ref 0), (2, .ref 48), (3, .int (nI i))], [.int (nI 1)], u)) rfl ?_
      exact x_ret (r := some (.int (nI 1))) rfl rfl (Or.inr rfl) rfl rfl

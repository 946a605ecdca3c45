/-! the voyage of the class: a run -/
theorem CR.ls {t : Nat} {T : TD} {V : VS} {ls ls' : Nat → Nat} {u : ST} (hC : CR t T V ls u) (h : ∀ k, k < tnb T → ls' k = ls k) : CR t T V ls' u := by
  obtain ⟨g24, g25, g26, g27, g28, g29, gsr, g9, g10, g11, gtl⟩ := hC
  exact ⟨g24, g25, g26, g27, g28, g29.cg h, gsr, g9, g10, g11, gtl⟩
theorem lsn_s {T : TD} {w : Nat} {k : Nat} (hk : k < tnb T) : lsn T (w + 1) k = lsk T w (lnc T w (evs T w (tne T) (vo T w)) (tnb T)) (lsn T w) (tnb T) k := by
  rw [lsk_at]
  show lsn T w k + (if vis (sls T w (lnc T w (evs T w (tne T) (vo T w)) (tnb T)) (tnb T)) k = 1 then 1 else 0) = _
  congr 1
  have : (k < tnb T ∧ vis (sls T w (lnc T w (evs T w (tne T) (vo T w)) (tnb T)) (tnb T)) k = 1) ↔ vis (sls T w (lnc T w (evs T w (tne T) (vo T w)) (tnb T)) (tnb T)) k = 1 := ⟨fun z => z.2, fun z => ⟨hk, z⟩⟩
  simp only [this]
set_option maxHeartbeats 2000000 in
theorem c_run5 (S : ST) (T : TD) (lw : Nat) (hT : TR 5 T S) (hto : tok T) (hw : lw < 24) : EX me_V_run 4 [.ref 23, .ref 5, .int (nI lw)] S (fun r u => r = none ∧ CR 5 T (vo T (lw + 1)) (lsn T (lw + 1)) u ∧ fr VL S u ∧ u.2.1 = S.2.1) := by
  refine EX.of mok_V_run (Nat.le_of_ble_eq_true rfl) ?_
  have H : ∀ i, i ≤ lw + 1 → ∀ u : ST, CR 5 T (vo T i) (lsn T i) u → fr VL S u → u.2.1 = S.2.1 → BX me_V_run 4 none (fun r u => r = none ∧ CR 5 T (vo T (lw + 1)) (lsn T (lw + 1)) u ∧ fr VL S u ∧ u.2.1 = S.2.1) (7, [(0, .ref 23), (1, .ref 5), (2, .int (nI lw)), (3, .int (nI i))], [], u) := by
    refine loop_up (P := fun i => ∀ u : ST, CR 5 T (vo T i) (lsn T i) u → fr VL S u → u.2.1 = S.2.1 → BX me_V_run 4 none (fun r u => r = none ∧ CR 5 T (vo T (lw + 1)) (lsn T (lw + 1)) u ∧ fr VL S u ∧ u.2.1 = S.2.1) (7, [(0, .ref 23), (1, .ref 5), (2, .int (nI lw)), (3, .int (nI i))], [], u)) (lw + 1) ?_ ?_
    · intro u hCu hf h2
      refine run_ok 2 (c' := (9, [(0, .ref 23), (1, .ref 5), (2, .int (nI lw)), (3, .int (nI (lw + 1)))], [.int (nI lw), .int (nI (lw + 1))], u)) rfl ?_
      refine x_icmpN_gt 30 rfl rfl (by omega) (by omega) (fun h9 => ?_) (fun hn => absurd (show lw < lw + 1 by omega) hn)
      exact x_ret (r := none) rfl rfl trivial ⟨rfl, hCu, hf, h2⟩ rfl
    · intro i hi ih u hCu hf h2
      have g9 := hCu.2.2.2.2.2.2.2.1
      have ql : lft T (vo T i) ≤ tnb T := cnt_le _ _
      have n8 := hto.1
      refine run_ok 2 (c' := (9, [(0, .ref 23), (1, .ref 5), (2, .int (nI lw)), (3, .int (nI i))], [.int (nI lw), .int (nI i)], u)) rfl ?_
      refine x_icmpN_gt 30 rfl rfl (by omega) (by omega) (fun hn => absurd hn (show ¬ lw < i by omega)) (fun h9 => ?_)
      refine run_ok 2 (c' := (16, [(0, .ref 23), (1, .ref 5), (2, .int (nI lw)), (3, .int (nI i))], [.int (u.1 23 9)], u)) rfl ?_
      refine x_top (v' := nI (lft T (vo T i))) g9 ?_
      refine x_ifN_le 30 rfl rfl (by omega) (fun h16 => ?_) (fun h16 => ?_)
      · refine x_ret (r := none) rfl rfl trivial ?_ rfl
        have hz := vo_stop hto (w := i) (by omega) (lw + 1 - i) (by omega)
        rw [show i + (lw + 1 - i) = lw + 1 by omega] at hz
        exact ⟨rfl, by rw [hz.1]; exact hCu.ls hz.2, hf, h2⟩
      · refine run_ok 2 (c' := (21, [(0, .ref 23), (1, .ref 5), (2, .int (nI lw)), (3, .int (nI i))], [.int (nI i), .ref 23], u)) rfl ?_
        refine x_callV [.int (nI i)] rfl cv_V_sail.1 lk_5_54 cv_V_sail.2.1 cv_V_sail.2.2.1 rfl cv_V_sail.2.2.2.1 rfl rfl (Nat.le_of_ble_eq_true rfl) (by decide) cv_V_sail.2.2.2.2 (c_sail5 u T (vo T i) (lsn T i) i (hT.keep hf (by decide)) hto hCu (vk_vo hto i (by omega)).1 (vk_vo hto i (by omega)).2 (by omega)) ?_
        rintro r v ⟨hr, hCv, hfv, h2v⟩
        rw [hr]
        clear hr r
        refine run_ok 1 (c' := (27, [(0, .ref 23), (1, .ref 5), (2, .int (nI lw)), (3, .int (nI i + nI 1))], [], v)) rfl ?_
        rw [nI_add i 1]
        refine run_ok 1 (c' := (7, [(0, .ref 23), (1, .ref 5), (2, .int (nI lw)), (3, .int (nI (i + 1)))], [], v)) rfl ?_
        exact ih v (hCv.ls (fun k hk => lsn_s hk)) (hf.tr hfv) (by rw [h2v]; exact h2)
  refine run_ok 2 (c' := (2, [(0, .ref 23), (1, .ref 5), (2, .int (nI lw))], [.ref 5, .ref 23], S)) rfl ?_
  refine x_callV [.ref 5] rfl cv_V_begin.1 lk_5_50 cv_V_begin.2.1 cv_V_begin.2.2.1 rfl cv_V_begin.2.2.2.1 rfl rfl (Nat.le_of_ble_eq_true rfl) (by decide) cv_V_begin.2.2.2.2 (c_begin5 S T hT hto) ?_
  rintro r v ⟨hr, hCv, hfv, h2v⟩
  rw [hr]
  clear hr r
  refine run_ok 2 (c' := (7, [(0, .ref 23), (1, .ref 5), (2, .int (nI lw)), (3, .int (nI 0))], [], v)) rfl ?_
  exact H 0 (by omega) v (hCv.ls (fun k _ => rfl)) hfv h2v

set_option maxHeartbeats 2000000 in
theorem c_run14 (S : ST) (T : TD) (lw : Nat) (hT : TR 14 T S) (hto : tok T) (hw : lw < 24) : EX me_V_run 4 [.ref 23, .ref 14, .int (nI lw)] S (fun r u => r = none ∧ CR 14 T (vo T (lw + 1)) (lsn T (lw + 1)) u ∧ fr VL S u ∧ u.2.1 = S.2.1) := by
  refine EX.of mok_V_run (Nat.le_of_ble_eq_true rfl) ?_
  have H : ∀ i, i ≤ lw + 1 → ∀ u : ST, CR 14 T (vo T i) (lsn T i) u → fr VL S u → u.2.1 = S.2.1 → BX me_V_run 4 none (fun r u => r = none ∧ CR 14 T (vo T (lw + 1)) (lsn T (lw + 1)) u ∧ fr VL S u ∧ u.2.1 = S.2.1) (7, [(0, .ref 23), (1, .ref 14), (2, .int (nI lw)), (3, .int (nI i))], [], u) := by
    refine loop_up (P := fun i => ∀ u : ST, CR 14 T (vo T i) (lsn T i) u → fr VL S u → u.2.1 = S.2.1 → BX me_V_run 4 none (fun r u => r = none ∧ CR 14 T (vo T (lw + 1)) (lsn T (lw + 1)) u ∧ fr VL S u ∧ u.2.1 = S.2.1) (7, [(0, .ref 23), (1, .ref 14), (2, .int (nI lw)), (3, .int (nI i))], [], u)) (lw + 1) ?_ ?_
    · intro u hCu hf h2
      refine run_ok 2 (c' := (9, [(0, .ref 23), (1, .ref 14), (2, .int (nI lw)), (3, .int (nI (lw + 1)))], [.int (nI lw), .int (nI (lw + 1))], u)) rfl ?_
      refine x_icmpN_gt 30 rfl rfl (by omega) (by omega) (fun h9 => ?_) (fun hn => absurd (show lw < lw + 1 by omega) hn)
      exact x_ret (r := none) rfl rfl trivial ⟨rfl, hCu, hf, h2⟩ rfl
    · intro i hi ih u hCu hf h2
      have g9 := hCu.2.2.2.2.2.2.2.1
      have ql : lft T (vo T i) ≤ tnb T := cnt_le _ _
      have n8 := hto.1
      refine run_ok 2 (c' := (9, [(0, .ref 23), (1, .ref 14), (2, .int (nI lw)), (3, .int (nI i))], [.int (nI lw), .int (nI i)], u)) rfl ?_
      refine x_icmpN_gt 30 rfl rfl (by omega) (by omega) (fun hn => absurd hn (show ¬ lw < i by omega)) (fun h9 => ?_)
      refine run_ok 2 (c' := (16, [(0, .ref 23), (1, .ref 14), (2, .int (nI lw)), (3, .int (nI i))], [.int (u.1 23 9)], u)) rfl ?_
      refine x_top (v' := nI (lft T (vo T i))) g9 ?_
      refine x_ifN_le 30 rfl rfl (by omega) (fun h16 => ?_) (fun h16 => ?_)
      · refine x_ret (r := none) rfl rfl trivial ?_ rfl
        have hz := vo_stop hto (w := i) (by omega) (lw + 1 - i) (by omega)
        rw [show i + (lw + 1 - i) = lw + 1 by omega] at hz
        exact ⟨rfl, by rw [hz.1]; exact hCu.ls hz.2, hf, h2⟩
      · refine run_ok 2 (c' := (21, [(0, .ref 23), (1, .ref 14), (2, .int (nI lw)), (3, .int (nI i))], [.int (nI i), .ref 23], u)) rfl ?_
        refine x_callV [.int (nI i)] rfl cv_V_sail.1 lk_5_54 cv_V_sail.2.1 cv_V_sail.2.2.1 rfl cv_V_sail.2.2.2.1 rfl rfl (Nat.le_of_ble_eq_true rfl) (by decide) cv_V_sail.2.2.2.2 (c_sail14 u T (vo T i) (lsn T i) i (hT.keep hf (by decide)) hto hCu (vk_vo hto i (by omega)).1 (vk_vo hto i (by omega)).2 (by omega)) ?_
        rintro r v ⟨hr, hCv, hfv, h2v⟩
        rw [hr]
        clear hr r
        refine run_ok 1 (c' := (27, [(0, .ref 23), (1, .ref 14), (2, .int (nI lw)), (3, .int (nI i + nI 1))], [], v)) rfl ?_
        rw [nI_add i 1]
        refine run_ok 1 (c' := (7, [(0, .ref 23), (1, .ref 14), (2, .int (nI lw)), (3, .int (nI (i + 1)))], [], v)) rfl ?_
        exact ih v (hCv.ls (fun k hk => lsn_s hk)) (hf.tr hfv) (by rw [h2v]; exact h2)
  refine run_ok 2 (c' := (2, [(0, .ref 23), (1, .ref 14), (2, .int (nI lw))], [.ref 14, .ref 23], S)) rfl ?_
  refine x_callV [.ref 14] rfl cv_V_begin.1 lk_5_50 cv_V_begin.2.1 cv_V_begin.2.2.1 rfl cv_V_begin.2.2.2.1 rfl rfl (Nat.le_of_ble_eq_true rfl) (by decide) cv_V_begin.2.2.2.2 (c_begin14 S T hT hto) ?_
  rintro r v ⟨hr, hCv, hfv, h2v⟩
  rw [hr]
  clear hr r
  refine run_ok 2 (c' := (7, [(0, .ref 23), (1, .ref 14), (2, .int (nI lw)), (3, .int (nI 0))], [], v)) rfl ?_
  exact H 0 (by omega) v (hCv.ls (fun k _ => rfl)) hfv h2v


/-! plans of the class: whom to wrong, when to pay, when to launch -/
theorem lsn_le (T : TD) (k : Nat) : ∀ w, lsn T w k ≤ w := by
  intro w
  induction w with
  | zero => exact Nat.le_refl 0
  | succ w ih =>
    show lsn T w k + (if vis (vo T (w + 1)) k = 1 then 1 else 0) ≤ w + 1
    split <;> omega
theorem tok_wh {T : TD} (h : tok T) {j v : Nat} (hv : v ≤ 9) : tok (wh T (upn (th T) j v)) := ⟨h.1, h.2.1, h.2.2.1, h.2.2.2.1, upn_le h.2.2.2.2.1 hv, h.2.2.2.2.2⟩
theorem tok_wlo {T : TD} (h : tok T) {m : Nat} (hm : m < 512) : tok (wlo T m) := ⟨h.1, h.2.1, h.2.2.1, h.2.2.2.1, h.2.2.2.2.1, hm⟩
theorem tok_wla {T : TD} (h : tok T) {k w : Nat} (hw : w < 24) : tok (wla T (upn (tla T) k w)) := by
  refine ⟨h.1, h.2.1, fun j hj => ?_, h.2.2.2.1, h.2.2.2.2.1, h.2.2.2.2.2⟩
  have q := h.2.2.1 j hj
  refine ⟨q.1, q.2.1, ?_, q.2.2.2⟩
  show upn (tla T) k w j < 24
  unfold upn
  split
  · exact hw
  · exact q.2.2.1
theorem tok_wso {T : TD} (h : tok T) {k v : Nat} (hv : v ≤ 2) : tok (wso T (upn (tso T) k v)) := by
  refine ⟨h.1, h.2.1, fun j hj => ?_, h.2.2.2.1, h.2.2.2.2.1, h.2.2.2.2.2⟩
  have q := h.2.2.1 j hj
  refine ⟨?_, q.2⟩
  show upn (tso T) k v j ≤ 2
  unfold upn
  split
  · exact hv
  · exact q.1
theorem tok_wev {T : TD} (h : tok T) (hn : tne T ≤ 8) {kd w b : Nat} (h1 : kd < 3) (h2 : w < 24) (h3 : b < 8) : tok (wev T (tne T + 1) (upn (tek T) (tne T) kd) (upn (tew T) (tne T) w) (upn (teb T) (tne T) b)) := by
  refine ⟨h.1, by show tne T + 1 ≤ 9; omega, h.2.2.1, fun e he => ?_, h.2.2.2.2.1, h.2.2.2.2.2⟩
  have he' : e < tne T + 1 := he
  show upn (tek T) (tne T) kd e < 3 ∧ upn (tew T) (tne T) w e < 24 ∧ upn (teb T) (tne T) b e < 8
  by_cases e1 : e = tne T
  · rw [e1, upn_s, upn_s, upn_s]; exact ⟨h1, h2, h3⟩
  · rw [upn_n e1, upn_n e1, upn_n e1]; exact h.2.2.2.1 e (by omega)
theorem bdn_le {b : Nat × Nat} {n f m c : Nat} (h1 : b.1 ≤ m) (hn : n ≤ m) (h2 : b.2 ≤ c) (hf : f ≤ c) : (bdn b n f).1 ≤ m ∧ (bdn b n f).2 ≤ c := by
  unfold bdn
  split
  · exact ⟨hn, hf⟩
  · exact ⟨h1, h2⟩
def wrg (T : TD) (k : Nat) : Nat → Nat × Nat
  | 0 => (99, 0)
  | p + 1 => if p = tbu T k then wrg T k p else bup (wrg T k p) p (lsn (wh T (upn (th T) (8 * p + tbu T k) 5)) 24 k)
def pyw (T : TD) (k w : Nat) : TD := wev T (tne T + 1) (upn (tek T) (tne T) 1) (upn (tew T) (tne T) w) (upn (teb T) (tne T) k)
def pyf (T : TD) (k : Nat) : Nat → Nat × Nat
  | 0 => (99, 0)
  | w + 1 => bup (pyf T k w) w (lsn (pyw T k w) 24 k)
def waf (T : TD) (k : Nat) : Nat → Nat × Nat
  | 0 => (99, 0)
  | w + 1 => bdn (waf T k w) w (cnt (fun j => decide (vis (vo (wla T (upn (tla T) k w)) 24) j = 2)) (tnb T))
theorem wrg_le (T : TD) (k : Nat) : ∀ p, p ≤ 8 → (wrg T k p).1 ≤ 99 ∧ (wrg T k p).2 ≤ 24 := by
  intro p
  induction p with
  | zero => intro _; exact ⟨Nat.le_refl 99, Nat.zero_le 24⟩
  | succ p ih =>
    intro hp
    have q := ih (by omega)
    unfold wrg
    split
    · exact q
    · exact bup_le q.1 (by omega) q.2 (lsn_le _ _ _)
theorem pyf_le (T : TD) (k : Nat) : ∀ p, p ≤ 24 → (pyf T k p).1 ≤ 99 ∧ (pyf T k p).2 ≤ 24 := by
  intro p
  induction p with
  | zero => intro _; exact ⟨Nat.le_refl 99, Nat.zero_le 24⟩
  | succ p ih =>
    intro hp
    have q := ih (by omega)
    exact bup_le q.1 (by omega) q.2 (lsn_le _ _ _)
theorem waf_le {T : TD} (h8 : tnb T ≤ 8) (k : Nat) : ∀ p, p ≤ 24 → (waf T k p).1 ≤ 99 ∧ (waf T k p).2 ≤ 8 := by
  intro p
  induction p with
  | zero => intro _; exact ⟨Nat.le_refl 99, Nat.zero_le 8⟩
  | succ p ih =>
    intro hp
    have q := ih (by omega)
    exact bdn_le q.1 (by omega) q.2 (Nat.le_trans (cnt_le _ _) h8)
set_option maxHeartbeats 2000000 in
theorem c_seekWrong (S : ST) (T : TD) (hT : TR 5 T S) (hto : tok T) (hne : tne T ≤ 8) (k : Nat) (hk : k < tnb T) : EX me_N_seekWrong 5 [.ref 0, .int (nI k)] S (fun r u => r = none ∧ BR (wrg T k 8) u ∧ fr CQ S u) := by
  refine EX.of mok_N_seekWrong (Nat.le_of_ble_eq_true rfl) ?_
  obtain ⟨n8, n9, hbt, het, hht, hlo⟩ := id hto
  obtain ⟨t1, t2, t3, t4, t5, t6, t7, t8, t9, t10, t11⟩ := id hT
  have qb := (hbt k hk).2.1
  have H : ∀ i, i ≤ 8 → ∀ v : ST, BR (wrg T k i) v → fr CQ S v → BX me_N_seekWrong 5 none (fun r u => r = none ∧ BR (wrg T k 8) u ∧ fr CQ S u) (19, [(0, .ref 0), (1, .int (nI k)), (2, .int (nI (tbu T k))), (3, .int (nI i))], [], v) := by
    refine loop_up (P := fun i => ∀ v : ST, BR (wrg T k i) v → fr CQ S v → BX me_N_seekWrong 5 none (fun r u => r = none ∧ BR (wrg T k 8) u ∧ fr CQ S u) (19, [(0, .ref 0), (1, .int (nI k)), (2, .int (nI (tbu T k))), (3, .int (nI i))], [], v)) 8 ?_ ?_
    · intro v hb hfv
      refine run_ok 2 (c' := (22, [(0, .ref 0), (1, .int (nI k)), (2, .int (nI (tbu T k))), (3, .int (nI 8))], [.int (nI 8), .int (nI 8)], v)) rfl ?_
      refine x_icmpN_ge 91 rfl rfl (by omega) (by omega) (fun h22 => ?_) (fun hn => absurd (Nat.le_refl 8) hn)
      exact x_ret (r := none) rfl rfl trivial ⟨rfl, hb, hfv⟩ rfl
    · intro i hi ih v hb hfv
      have qn : tnb (wh T (upn (th T) (8 * i + tbu T k) 5)) = tnb T := rfl
      have q1 := wrg_le T k i (by omega)
      have q2 := lsn_le (wh T (upn (th T) (8 * i + tbu T k) 5)) k 24
      refine run_ok 2 (c' := (22, [(0, .ref 0), (1, .int (nI k)), (2, .int (nI (tbu T k))), (3, .int (nI i))], [.int (nI 8), .int (nI i)], v)) rfl ?_
      refine x_icmpN_ge 91 rfl rfl (by omega) (by omega) (fun hn => absurd hn (show ¬ 8 ≤ i by omega)) (fun h22 => ?_)
      refine run_ok 2 (c' := (27, [(0, .ref 0), (1, .int (nI k)), (2, .int (nI (tbu T k))), (3, .int (nI i))], [.int (nI (tbu T k)), .int (nI i)], v)) rfl ?_
      refine x_icmpN_eq 85 rfl rfl (by omega) (by omega) (fun h27 => ?_) (fun h27 => ?_)
      · refine run_ok 1 (c' := (88, [(0, .ref 0), (1, .int (nI k)), (2, .int (nI (tbu T k))), (3, .int (nI i + nI 1))], [], v)) rfl ?_
        rw [nI_add i 1]
        refine run_ok 1 (c' := (19, [(0, .ref 0), (1, .int (nI k)), (2, .int (nI (tbu T k))), (3, .int (nI (i + 1)))], [], v)) rfl ?_
        rw [show wrg T k (i + 1) = wrg T k i from if_pos h27] at ih
        exact ih v hb hfv
      · refine run_ok 4 (c' := (38, [(0, .ref 0), (1, .int (nI k)), (2, .int (nI (tbu T k))), (3, .int (nI i))], [.ref 5, .ref 14], v)) rfl ?_
        refine x_callV [.ref 5] rfl cv_T_become.1 lk_6_220 cv_T_become.2.1 cv_T_become.2.2.1 rfl cv_T_become.2.2.2.1 rfl rfl (Nat.le_of_ble_eq_true rfl) (by decide) cv_T_become.2.2.2.2 (c_become v T (hT.keep hfv (by decide)) hto hne) ?_
        rintro r v1 ⟨hr, hTb, hfb, h2b⟩
        rw [hr]
        clear hr r
        refine run_ok 5 (c' := (50, [(0, .ref 0), (1, .int (nI k)), (2, .int (nI (tbu T k))), (3, .int (nI i))], [.int (nI (tbu T k)), .int (nI i), .ref 15], v1)) rfl ?_
        refine x_callS [.int (nI i), .int (nI (tbu T k))] rfl cs_N_pair.1 lk_6_103 cs_N_pair.2.1 rfl rfl (Nat.le_of_ble_eq_true rfl) (by decide) cs_N_pair.2.2 (c_pair v1 (nI i) (nI (tbu T k))) ?_
        rintro r x ⟨hr, hu⟩
        rw [hr, hu]
        clear hr hu r x
        refine x_top (v' := nI (8 * i + (tbu T k))) (by rw [pk_mul, nI_add, Nat.mul_comm]) ?_
        refine run_ok 1 (c' := (54, [(0, .ref 0), (1, .int (nI k)), (2, .int (nI (tbu T k))), (3, .int (nI i))], [.int (nI 5), .int (nI (8 * i + (tbu T k))), .ref 15], v1)) rfl ?_
        refine x_isN rfl rfl (by decide) (by omega) ?_
        refine run_ok 5 (c' := (65, [(0, .ref 0), (1, .int (nI k)), (2, .int (nI (tbu T k))), (3, .int (nI i))], [.int (nI 23), .ref 14, .ref 23], (pt v1 15 (8 * i + (tbu T k)) (nI 5)))) rfl ?_
        refine x_callV [.ref 14, .int (nI 23)] rfl cv_V_run.1 lk_6_146 cv_V_run.2.1 cv_V_run.2.2.1 rfl cv_V_run.2.2.2.1 rfl rfl (Nat.le_of_ble_eq_true rfl) (by decide) cv_V_run.2.2.2.2 (c_run14 (pt v1 15 (8 * i + (tbu T k)) (nI 5)) (wh T (upn (th T) (8 * i + tbu T k) 5)) 23 ⟨hTb.1.put, hTb.2⟩ (tok_wh hto (by decide)) (by omega)) ?_
        rintro r u ⟨hr, hCu, hfu, h2u⟩
        rw [hr]
        clear hr r
        have h29 := hCu.2.2.2.2.2.1
        refine run_ok 7 (c' := (81, [(0, .ref 0), (1, .int (nI k)), (2, .int (nI (tbu T k))), (3, .int (nI i))], [.int (nI k), .ref 29, .int (nI i), .ref 36], u)) rfl ?_
        refine x_iaN (nI (lsn (wh T (upn (th T) (8 * i + tbu T k) 5)) 24 k)) rfl rfl (by decide) (by omega) (h29 k (by omega)) ?_
        refine x_callV [.int (nI i), .int (nI (lsn (wh T (upn (th T) (8 * i + tbu T k) 5)) 24 k))] rfl cv_B_offer.1 lk_6_183 cv_B_offer.2.1 cv_B_offer.2.2.1 rfl cv_B_offer.2.2.2.1 rfl rfl (Nat.le_of_ble_eq_true rfl) (by decide) cv_B_offer.2.2.2.2 (c_offerU u (wrg T k i) i (lsn (wh T (upn (th T) (8 * i + tbu T k) 5)) 24 k) ⟨by rw [hfu 36 (by decide)]; exact (by rw [show (pt v1 15 (8 * i + tbu T k) (nI 5)).1 36 = v1.1 36 from rfl, hfb 36 (by decide)]; exact hb.1), by rw [hfu 36 (by decide)]; exact (by rw [show (pt v1 15 (8 * i + tbu T k) (nI 5)).1 36 = v1.1 36 from rfl, hfb 36 (by decide)]; exact hb.2)⟩ (by omega) (by omega) (by omega) (by omega)) ?_
        rintro r z ⟨hr, hbz, hfz, h2z⟩
        rw [hr]
        clear hr r
        refine run_ok 1 (c' := (88, [(0, .ref 0), (1, .int (nI k)), (2, .int (nI (tbu T k))), (3, .int (nI i + nI 1))], [], z)) rfl ?_
        rw [nI_add i 1]
        refine run_ok 1 (c' := (19, [(0, .ref 0), (1, .int (nI k)), (2, .int (nI (tbu T k))), (3, .int (nI (i + 1)))], [], z)) rfl ?_
        rw [show wrg T k (i + 1) = bup (wrg T k i) i (lsn (wh T (upn (th T) (8 * i + tbu T k) 5)) 24 k) from if_neg h27] at ih
        exact ih z hbz (hfv.tr ((((hfb.sub (by decide)).pt (by decide)).tr (hfu.sub (by decide))).tr (hfz.sub (by decide))))
  refine run_ok 4 (c' := (8, [(0, .ref 0), (1, .int (nI k))], [.int (nI k), .ref 8], S)) rfl ?_
  refine x_iaN (nI (tbu T k)) rfl rfl (by decide) (by omega) (t3 k (by omega)) ?_
  refine run_ok 3 (c' := (14, [(0, .ref 0), (1, .int (nI k)), (2, .int (nI (tbu T k)))], [.ref 36], S)) rfl ?_
  refine x_callV [] rfl cv_B_clear.1 lk_6_177 cv_B_clear.2.1 cv_B_clear.2.2.1 rfl cv_B_clear.2.2.2.1 rfl rfl (Nat.le_of_ble_eq_true rfl) (by decide) cv_B_clear.2.2.2.2 (c_clear S) ?_
  rintro r x ⟨hr, hv⟩
  rw [hr, hv]
  clear hr hv r x
  refine run_ok 2 (c' := (19, [(0, .ref 0), (1, .int (nI k)), (2, .int (nI (tbu T k))), (3, .int (nI 0))], [], (pt (pt S 36 0 (-1)) 36 1 (nI 0)))) rfl ?_
  exact H 0 (by omega) _ ⟨rfl, rfl⟩ ((fr.rf.pt (by decide)).pt (by decide))

set_option maxHeartbeats 2000000 in
theorem c_seekPay (S : ST) (T : TD) (hT : TR 5 T S) (hto : tok T) (hne : tne T ≤ 8) (k : Nat) (hk : k < tnb T) : EX me_N_seekPay 5 [.ref 0, .int (nI k)] S (fun r u => r = none ∧ BR (pyf T k 24) u ∧ fr CQ S u) := by
  refine EX.of mok_N_seekPay (Nat.le_of_ble_eq_true rfl) ?_
  obtain ⟨n8, n9, hbt, het, hht, hlo⟩ := id hto
  obtain ⟨t1, t2, t3, t4, t5, t6, t7, t8, t9, t10, t11⟩ := id hT
  have H : ∀ i, i ≤ 24 → ∀ v : ST, BR (pyf T k i) v → fr CQ S v → BX me_N_seekPay 5 none (fun r u => r = none ∧ BR (pyf T k 24) u ∧ fr CQ S u) (9, [(0, .ref 0), (1, .int (nI k)), (2, .int (nI i))], [], v) := by
    refine loop_up (P := fun i => ∀ v : ST, BR (pyf T k i) v → fr CQ S v → BX me_N_seekPay 5 none (fun r u => r = none ∧ BR (pyf T k 24) u ∧ fr CQ S u) (9, [(0, .ref 0), (1, .int (nI k)), (2, .int (nI i))], [], v)) 24 ?_ ?_
    · intro v hb hfv
      refine run_ok 2 (c' := (12, [(0, .ref 0), (1, .int (nI k)), (2, .int (nI 24))], [.int (nI 24), .int (nI 24)], v)) rfl ?_
      refine x_icmpN_ge 72 rfl rfl (by omega) (by omega) (fun h12 => ?_) (fun hn => absurd (Nat.le_refl 24) hn)
      exact x_ret (r := none) rfl rfl trivial ⟨rfl, hb, hfv⟩ rfl
    · intro i hi ih v hb hfv
      have q1 := pyf_le T k i (by omega)
      have q2 := lsn_le (pyw T k i) k 24
      have qn : tnb (pyw T k i) = tnb T := rfl
      refine run_ok 2 (c' := (12, [(0, .ref 0), (1, .int (nI k)), (2, .int (nI i))], [.int (nI 24), .int (nI i)], v)) rfl ?_
      refine x_icmpN_ge 72 rfl rfl (by omega) (by omega) (fun hn => absurd hn (show ¬ 24 ≤ i by omega)) (fun h12 => ?_)
      refine run_ok 4 (c' := (23, [(0, .ref 0), (1, .int (nI k)), (2, .int (nI i))], [.ref 5, .ref 14], v)) rfl ?_
      refine x_callV [.ref 5] rfl cv_T_become.1 lk_6_220 cv_T_become.2.1 cv_T_become.2.2.1 rfl cv_T_become.2.2.2.1 rfl rfl (Nat.le_of_ble_eq_true rfl) (by decide) cv_T_become.2.2.2.2 (c_become v T (hT.keep hfv (by decide)) hto hne) ?_
      rintro r v1 ⟨hr, hTb, hfb, h2b⟩
      rw [hr]
      clear hr r
      refine run_ok 5 (c' := (33, [(0, .ref 0), (1, .int (nI k)), (2, .int (nI i))], [.int (nI k), .int (nI i), .int (nI 1), .ref 14], v1)) rfl ?_
      refine x_callV [.int (nI 1), .int (nI i), .int (nI k)] rfl cv_T_addEvent.1 lk_6_126 cv_T_addEvent.2.1 cv_T_addEvent.2.2.1 rfl cv_T_addEvent.2.2.2.1 rfl rfl (Nat.le_of_ble_eq_true rfl) (by decide) cv_T_addEvent.2.2.2.2 (c_addEvent14 v1 T 1 i k hTb hne) ?_
      rintro r v2 ⟨hr, hTc, hfc, h2c⟩
      rw [hr]
      clear hr r
      refine run_ok 5 (c' := (46, [(0, .ref 0), (1, .int (nI k)), (2, .int (nI i))], [.int (nI 23), .ref 14, .ref 23], v2)) rfl ?_
      refine x_callV [.ref 14, .int (nI 23)] rfl cv_V_run.1 lk_6_146 cv_V_run.2.1 cv_V_run.2.2.1 rfl cv_V_run.2.2.2.1 rfl rfl (Nat.le_of_ble_eq_true rfl) (by decide) cv_V_run.2.2.2.2 (c_run14 v2 (pyw T k i) 23 hTc (tok_wev hto hne (by decide) (by omega) (by omega)) (by omega)) ?_
      rintro r u ⟨hr, hCu, hfu, h2u⟩
      rw [hr]
      clear hr r
      have h29 := hCu.2.2.2.2.2.1
      refine run_ok 7 (c' := (62, [(0, .ref 0), (1, .int (nI k)), (2, .int (nI i))], [.int (nI k), .ref 29, .int (nI i), .ref 36], u)) rfl ?_
      refine x_iaN (nI (lsn (pyw T k i) 24 k)) rfl rfl (by decide) (by omega) (h29 k (by omega)) ?_
      refine x_callV [.int (nI i), .int (nI (lsn (pyw T k i) 24 k))] rfl cv_B_offer.1 lk_6_183 cv_B_offer.2.1 cv_B_offer.2.2.1 rfl cv_B_offer.2.2.2.1 rfl rfl (Nat.le_of_ble_eq_true rfl) (by decide) cv_B_offer.2.2.2.2 (c_offerU u (pyf T k i) i (lsn (pyw T k i) 24 k) (show BR _ u from ⟨by rw [hfu 36 (by decide), hfc 36 (by decide), hfb 36 (by decide)]; exact hb.1, by rw [hfu 36 (by decide), hfc 36 (by decide), hfb 36 (by decide)]; exact hb.2⟩) (by omega) (by omega) (by omega) (by omega)) ?_
      rintro r z ⟨hr, hbz, hfz, h2z⟩
      rw [hr]
      clear hr r
      refine run_ok 1 (c' := (69, [(0, .ref 0), (1, .int (nI k)), (2, .int (nI i + nI 1))], [], z)) rfl ?_
      rw [nI_add i 1]
      refine run_ok 1 (c' := (9, [(0, .ref 0), (1, .int (nI k)), (2, .int (nI (i + 1)))], [], z)) rfl ?_
      exact ih z hbz (hfv.tr ((((hfb.sub (by decide)).tr (hfc.sub (by decide))).tr (hfu.sub (by decide))).tr (hfz.sub (by decide))))
  refine run_ok 2 (c' := (4, [(0, .ref 0), (1, .int (nI k))], [.ref 36], S)) rfl ?_
  refine x_callV [] rfl cv_B_clear.1 lk_6_177 cv_B_clear.2.1 cv_B_clear.2.2.1 rfl cv_B_clear.2.2.2.1 rfl rfl (Nat.le_of_ble_eq_true rfl) (by decide) cv_B_clear.2.2.2.2 (c_clear S) ?_
  rintro r x ⟨hr, hv⟩
  rw [hr, hv]
  clear hr hv r x
  refine run_ok 2 (c' := (9, [(0, .ref 0), (1, .int (nI k)), (2, .int (nI 0))], [], (pt (pt S 36 0 (-1)) 36 1 (nI 0)))) rfl ?_
  exact H 0 (by omega) _ ⟨rfl, rfl⟩ ((fr.rf.pt (by decide)).pt (by decide))

set_option maxHeartbeats 2000000 in
theorem c_seekWait (S : ST) (T : TD) (hT : TR 5 T S) (hto : tok T) (hne : tne T ≤ 8) (k : Nat) (hk : k < tnb T) : EX me_N_seekWait 5 [.ref 0, .int (nI k)] S (fun r u => r = none ∧ BN (waf T k 24) u ∧ fr CQ S u) := by
  refine EX.of mok_N_seekWait (Nat.le_of_ble_eq_true rfl) ?_
  obtain ⟨n8, n9, hbt, het, hht, hlo⟩ := id hto
  obtain ⟨t1, t2, t3, t4, t5, t6, t7, t8, t9, t10, t11⟩ := id hT
  have H : ∀ i, i ≤ 24 → ∀ (v : ST) (f : Nat → Nat), BN (waf T k i) v → TR 14 (wla T f) v → (∀ j, j ≠ k → f j = tla T j) → fr CQ S v → BX me_N_seekWait 5 none (fun r u => r = none ∧ BN (waf T k 24) u ∧ fr CQ S u) (20, [(0, .ref 0), (1, .int (nI k)), (2, .int (nI i))], [], v) := by
    refine loop_up (P := fun i => ∀ (v : ST) (f : Nat → Nat), BN (waf T k i) v → TR 14 (wla T f) v → (∀ j, j ≠ k → f j = tla T j) → fr CQ S v → BX me_N_seekWait 5 none (fun r u => r = none ∧ BN (waf T k 24) u ∧ fr CQ S u) (20, [(0, .ref 0), (1, .int (nI k)), (2, .int (nI i))], [], v)) 24 ?_ ?_
    · intro v f hb hTv hff hfv
      refine run_ok 2 (c' := (23, [(0, .ref 0), (1, .int (nI k)), (2, .int (nI 24))], [.int (nI 24), .int (nI 24)], v)) rfl ?_
      refine x_icmpN_ge 72 rfl rfl (by omega) (by omega) (fun h23 => ?_) (fun hn => absurd (Nat.le_refl 24) hn)
      exact x_ret (r := none) rfl rfl trivial ⟨rfl, hb, hfv⟩ rfl
    · intro i hi ih v f hb hTv hff hfv
      have q1 := waf_le n8 k i (by omega)
      have q2 : cnt (fun j => decide (vis (vo (wla T (upn (tla T) k i)) 24) j = 2)) (tnb T) ≤ tnb T := cnt_le _ _
      refine run_ok 2 (c' := (23, [(0, .ref 0), (1, .int (nI k)), (2, .int (nI i))], [.int (nI 24), .int (nI i)], v)) rfl ?_
      refine x_icmpN_ge 72 rfl rfl (by omega) (by omega) (fun hn => absurd hn (show ¬ 24 ≤ i by omega)) (fun h23 => ?_)
      refine run_ok 5 (c' := (35, [(0, .ref 0), (1, .int (nI k)), (2, .int (nI i))], [.int (nI i), .int (nI k), .ref 18], v)) rfl ?_
      refine x_isN rfl rfl (by decide) (by omega) ?_
      have hTw : TR 14 (wla T (upn (tla T) k i)) (pt v 18 k (nI i)) := ⟨hTv.1, hTv.2.1, hTv.2.2.1, (hTv.2.2.2.1.put).cg (fun j hj => by show upn (tla T) k i j = upn f k i j; unfold upn; split; rfl; exact (hff j (by assumption)).symm), hTv.2.2.2.2⟩
      refine run_ok 5 (c' := (46, [(0, .ref 0), (1, .int (nI k)), (2, .int (nI i))], [.int (nI 23), .ref 14, .ref 23], (pt v 18 k (nI i)))) rfl ?_
      refine x_callV [.ref 14, .int (nI 23)] rfl cv_V_run.1 lk_6_146 cv_V_run.2.1 cv_V_run.2.2.1 rfl cv_V_run.2.2.2.1 rfl rfl (Nat.le_of_ble_eq_true rfl) (by decide) cv_V_run.2.2.2.2 (c_run14 (pt v 18 k (nI i)) (wla T (upn (tla T) k i)) 23 hTw (tok_wla hto (by omega)) (by omega)) ?_
      rintro r u ⟨hr, hCu, hfu, h2u⟩
      rw [hr]
      clear hr r
      have h29 := hCu.2.2.2.2.2.1
      refine run_ok 6 (c' := (59, [(0, .ref 0), (1, .int (nI k)), (2, .int (nI i))], [.int (nI 2), .ref 23, .int (nI i), .ref 36], u)) rfl ?_
      refine x_callV [.int (nI 2)] rfl cv_V_howMany.1 lk_6_161 cv_V_howMany.2.1 cv_V_howMany.2.2.1 rfl cv_V_howMany.2.2.2.1 rfl rfl (Nat.le_of_ble_eq_true rfl) (by decide) cv_V_howMany.2.2.2.2 (c_howMany14 u (wla T (upn (tla T) k i)) (vo (wla T (upn (tla T) k i)) 24) _ (hTw.keep hfu (by decide)) (tok_wla hto (by omega)) hCu (vk_vo (tok_wla hto (by omega)) 24 (by omega)).1 2 (by decide)) ?_
      rintro r x ⟨hr, hu⟩
      rw [hr, hu]
      clear hr hu r x
      refine run_ok 1 (c' := (63, [(0, .ref 0), (1, .int (nI k)), (2, .int (nI i))], [.int (-(nI (cnt (fun j => decide (vis (vo (wla T (upn (tla T) k i)) 24) j = 2)) (tnb T)))), .int (nI i), .ref 36], u)) rfl ?_
      refine x_callV [.int (nI i), .int (-(nI (cnt (fun j => decide (vis (vo (wla T (upn (tla T) k i)) 24) j = 2)) (tnb T))))] rfl cv_B_offer.1 lk_6_183 cv_B_offer.2.1 cv_B_offer.2.2.1 rfl cv_B_offer.2.2.2.1 rfl rfl (Nat.le_of_ble_eq_true rfl) (by decide) cv_B_offer.2.2.2.2 (c_offerD u (waf T k i) i (cnt (fun j => decide (vis (vo (wla T (upn (tla T) k i)) 24) j = 2)) (tnb T)) (show BN _ u from ⟨by rw [hfu 36 (by decide)]; exact hb.1, by rw [hfu 36 (by decide)]; exact hb.2⟩) (by omega) (by omega) (by omega) (by omega)) ?_
      rintro r z ⟨hr, hbz, hfz, h2z⟩
      rw [hr]
      clear hr r
      refine run_ok 1 (c' := (69, [(0, .ref 0), (1, .int (nI k)), (2, .int (nI i + nI 1))], [], z)) rfl ?_
      rw [nI_add i 1]
      refine run_ok 1 (c' := (20, [(0, .ref 0), (1, .int (nI k)), (2, .int (nI (i + 1)))], [], z)) rfl ?_
      exact ih z (upn (tla T) k i) hbz ((hTw.keep hfu (by decide)).keep hfz (by decide)) (fun j hj => upn_n hj) (hfv.tr (((fr.rf.pt (by decide)).tr (hfu.sub (by decide))).tr (hfz.sub (by decide))))
  refine run_ok 4 (c' := (8, [(0, .ref 0), (1, .int (nI k))], [.ref 5, .ref 14], S)) rfl ?_
  refine x_callV [.ref 5] rfl cv_T_become.1 lk_6_220 cv_T_become.2.1 cv_T_become.2.2.1 rfl cv_T_become.2.2.2.1 rfl rfl (Nat.le_of_ble_eq_true rfl) (by decide) cv_T_become.2.2.2.2 (c_become S T hT hto hne) ?_
  rintro r v1 ⟨hr, hTb, hfb, h2b⟩
  rw [hr]
  clear hr r
  refine run_ok 2 (c' := (15, [(0, .ref 0), (1, .int (nI k))], [.ref 36], v1)) rfl ?_
  refine x_callV [] rfl cv_B_clear.1 lk_6_177 cv_B_clear.2.1 cv_B_clear.2.2.1 rfl cv_B_clear.2.2.2.1 rfl rfl (Nat.le_of_ble_eq_true rfl) (by decide) cv_B_clear.2.2.2.2 (c_clear v1) ?_
  rintro r x ⟨hr, hv⟩
  rw [hr, hv]
  clear hr hv r x
  refine run_ok 2 (c' := (20, [(0, .ref 0), (1, .int (nI k)), (2, .int (nI 0))], [], (pt (pt v1 36 0 (-1)) 36 1 (nI 0)))) rfl ?_
  exact H 0 (by omega) _ (tla T) ⟨rfl, (by decide : nI 0 = -(nI 0))⟩ hTb (fun _ _ => rfl) (((hfb.sub (by decide)).pt (by decide)).pt (by decide))

set_option maxHeartbeats 2000000 in
theorem c_wrong_bad (S : ST) (T : TD) (t9 : S.1 5 6 = nI (tnb T)) (x y : Int32) (hbad : ¬ ((0 ≤ x ∧ x < nI (tnb T)) ∧ (0 ≤ y ∧ y < nI 2))) : EX me_N_wrong 6 [.ref 0, .int x, .int y] S (fun r u => r = some (.int ((-2))) ∧ u = S) := by
  refine EX.of mok_N_wrong (Nat.le_of_ble_eq_true rfl) ?_
  refine run_ok 2 (c' := (2, [(0, .ref 0), (1, .int x), (2, .int y)], [.int x, .ref 0], S)) rfl ?_
  refine x_callV [.int x] rfl cv_N_isBoat.1 lk_6_107 cv_N_isBoat.2.1 cv_N_isBoat.2.2.1 rfl cv_N_isBoat.2.2.2.1 rfl rfl (Nat.le_of_ble_eq_true rfl) (by decide) cv_N_isBoat.2.2.2.2 (c_isBoat S (x) (tnb T) t9) ?_
  rintro r u ⟨hr, hu⟩
  rw [hr, hu]
  clear hr hu r u
  refine x_ifB_eq 16 rfl rfl (fun h5 => ?_) (fun h5 => ?_)
  · refine run_ok 1 (c' := (18, [(0, .ref 0), (1, .int x), (2, .int y)], [.int (-2)], S)) rfl ?_
    exact x_ret (r := some (.int (-2))) rfl rfl trivial ⟨rfl, rfl⟩ rfl
  · refine run_ok 2 (c' := (10, [(0, .ref 0), (1, .int x), (2, .int y)], [.int (nI 2), .int y], S)) rfl ?_
    refine x_callS [.int y, .int (nI 2)] rfl cs_N_isBelow.1 lk_6_73 cs_N_isBelow.2.1 rfl rfl (Nat.le_of_ble_eq_true rfl) (by decide) cs_N_isBelow.2.2 (c_isBelow S (y) (nI 2)) ?_
    rintro r u ⟨hr, hu⟩
    rw [hr, hu]
    clear hr hu r u
    refine x_ifB_ne 19 rfl rfl (fun h13 => ?_) (fun h13 => ?_)
    · exact absurd ⟨h5, h13⟩ hbad
    · refine run_ok 1 (c' := (18, [(0, .ref 0), (1, .int x), (2, .int y)], [.int (-2)], S)) rfl ?_
      exact x_ret (r := some (.int (-2))) rfl rfl trivial ⟨rfl, rfl⟩ rfl

set_option maxHeartbeats 2000000 in
theorem c_wrong_ok0 (S : ST) (T : TD) (hT : TR 5 T S) (hto : tok T) (hne : tne T ≤ 8) (k : Nat) (hk : k < tnb T) : EX me_N_wrong 6 [.ref 0, .int (nI k), .int (nI 0)] S (fun r u => r = some (.int (whv (wrg T k 8).1)) ∧ fr CQ S u) := by
  refine EX.of mok_N_wrong (Nat.le_of_ble_eq_true rfl) ?_
  obtain ⟨n8, n9, hbt, het, hht, hlo⟩ := id hto
  obtain ⟨t1, t2, t3, t4, t5, t6, t7, t8, t9, t10, t11⟩ := id hT
  refine run_ok 2 (c' := (2, [(0, .ref 0), (1, .int (nI k)), (2, .int (nI 0))], [.int (nI k), .ref 0], S)) rfl ?_
  refine x_callV [.int (nI k)] rfl cv_N_isBoat.1 lk_6_107 cv_N_isBoat.2.1 cv_N_isBoat.2.2.1 rfl cv_N_isBoat.2.2.2.1 rfl rfl (Nat.le_of_ble_eq_true rfl) (by decide) cv_N_isBoat.2.2.2.2 (c_isBoat S (nI k) (tnb T) t9) ?_
  rintro r u ⟨hr, hu⟩
  rw [hr, hu]
  clear hr hu r u
  refine x_ifB_eq 16 rfl rfl (fun hn => absurd hn (fun z => z (inr_t hk (by omega)))) (fun h5 => ?_)
  refine run_ok 2 (c' := (10, [(0, .ref 0), (1, .int (nI k)), (2, .int (nI 0))], [.int (nI 2), .int (nI 0)], S)) rfl ?_
  refine x_callS [.int (nI 0), .int (nI 2)] rfl cs_N_isBelow.1 lk_6_73 cs_N_isBelow.2.1 rfl rfl (Nat.le_of_ble_eq_true rfl) (by decide) cs_N_isBelow.2.2 (c_isBelow S (nI 0) (nI 2)) ?_
  rintro r u ⟨hr, hu⟩
  rw [hr, hu]
  clear hr hu r u
  refine x_ifB_ne 19 rfl rfl (fun h13 => ?_) (fun hn => absurd (inr_t (by decide) (by decide)) hn)
  refine run_ok 2 (c' := (21, [(0, .ref 0), (1, .int (nI k)), (2, .int (nI 0))], [.int (nI k), .ref 0], S)) rfl ?_
  refine x_callV [.int (nI k)] rfl cv_N_seekWrong.1 lk_6_193 cv_N_seekWrong.2.1 cv_N_seekWrong.2.2.1 rfl cv_N_seekWrong.2.2.2.1 rfl rfl (Nat.le_of_ble_eq_true rfl) (by decide) cv_N_seekWrong.2.2.2.2 (c_seekWrong S T hT hto hne k hk) ?_
  rintro r u ⟨hr, hbu, hfu⟩
  rw [hr]
  clear hr r
  have hb1 := hbu.1
  have hb2 := hbu.2
  refine run_ok 1 (c' := (25, [(0, .ref 0), (1, .int (nI k)), (2, .int (nI 0))], [.int (nI 0)], u)) rfl ?_
  refine x_ifN_ne 38 rfl rfl (by omega) (fun hn => absurd (by decide) hn) (fun h25 => ?_)
  refine run_ok 3 (c' := (35, [(0, .ref 0), (1, .int (nI k)), (2, .int (nI 0))], [.int (u.1 36 0)], u)) rfl ?_
  refine x_top (v' := whv (wrg T k 8).1) hb1 ?_
  refine run_ok 1 (c' := (45, [(0, .ref 0), (1, .int (nI k)), (2, .int (nI 0))], [.int (whv (wrg T k 8).1)], u)) rfl ?_
  exact x_ret (r := some (.int (whv (wrg T k 8).1))) rfl rfl trivial ⟨rfl, hfu⟩ rfl

set_option maxHeartbeats 2000000 in
theorem c_wrong_ok1 (S : ST) (T : TD) (hT : TR 5 T S) (hto : tok T) (hne : tne T ≤ 8) (k : Nat) (hk : k < tnb T) : EX me_N_wrong 6 [.ref 0, .int (nI k), .int (nI 1)] S (fun r u => r = some (.int (nI (wrg T k 8).2)) ∧ fr CQ S u) := by
  refine EX.of mok_N_wrong (Nat.le_of_ble_eq_true rfl) ?_
  obtain ⟨n8, n9, hbt, het, hht, hlo⟩ := id hto
  obtain ⟨t1, t2, t3, t4, t5, t6, t7, t8, t9, t10, t11⟩ := id hT
  refine run_ok 2 (c' := (2, [(0, .ref 0), (1, .int (nI k)), (2, .int (nI 1))], [.int (nI k), .ref 0], S)) rfl ?_
  refine x_callV [.int (nI k)] rfl cv_N_isBoat.1 lk_6_107 cv_N_isBoat.2.1 cv_N_isBoat.2.2.1 rfl cv_N_isBoat.2.2.2.1 rfl rfl (Nat.le_of_ble_eq_true rfl) (by decide) cv_N_isBoat.2.2.2.2 (c_isBoat S (nI k) (tnb T) t9) ?_
  rintro r u ⟨hr, hu⟩
  rw [hr, hu]
  clear hr hu r u
  refine x_ifB_eq 16 rfl rfl (fun hn => absurd hn (fun z => z (inr_t hk (by omega)))) (fun h5 => ?_)
  refine run_ok 2 (c' := (10, [(0, .ref 0), (1, .int (nI k)), (2, .int (nI 1))], [.int (nI 2), .int (nI 1)], S)) rfl ?_
  refine x_callS [.int (nI 1), .int (nI 2)] rfl cs_N_isBelow.1 lk_6_73 cs_N_isBelow.2.1 rfl rfl (Nat.le_of_ble_eq_true rfl) (by decide) cs_N_isBelow.2.2 (c_isBelow S (nI 1) (nI 2)) ?_
  rintro r u ⟨hr, hu⟩
  rw [hr, hu]
  clear hr hu r u
  refine x_ifB_ne 19 rfl rfl (fun h13 => ?_) (fun hn => absurd (inr_t (by decide) (by decide)) hn)
  refine run_ok 2 (c' := (21, [(0, .ref 0), (1, .int (nI k)), (2, .int (nI 1))], [.int (nI k), .ref 0], S)) rfl ?_
  refine x_callV [.int (nI k)] rfl cv_N_seekWrong.1 lk_6_193 cv_N_seekWrong.2.1 cv_N_seekWrong.2.2.1 rfl cv_N_seekWrong.2.2.2.1 rfl rfl (Nat.le_of_ble_eq_true rfl) (by decide) cv_N_seekWrong.2.2.2.2 (c_seekWrong S T hT hto hne k hk) ?_
  rintro r u ⟨hr, hbu, hfu⟩
  rw [hr]
  clear hr r
  have hb1 := hbu.1
  have hb2 := hbu.2
  refine run_ok 1 (c' := (25, [(0, .ref 0), (1, .int (nI k)), (2, .int (nI 1))], [.int (nI 1)], u)) rfl ?_
  refine x_ifN_ne 38 rfl rfl (by omega) (fun h25 => ?_) (fun hn => absurd hn (by decide))
  refine run_ok 3 (c' := (45, [(0, .ref 0), (1, .int (nI k)), (2, .int (nI 1))], [.int (u.1 36 1)], u)) rfl ?_
  refine x_top (v' := nI ((wrg T k 8).2)) hb2 ?_
  exact x_ret (r := some (.int (nI ((wrg T k 8).2)))) rfl rfl trivial ⟨rfl, hfu⟩ rfl

set_option maxHeartbeats 2000000 in
theorem c_pay_bad (S : ST) (T : TD) (t9 : S.1 5 6 = nI (tnb T)) (x y : Int32) (hbad : ¬ ((0 ≤ x ∧ x < nI (tnb T)) ∧ (0 ≤ y ∧ y < nI 2))) : EX me_N_pay 6 [.ref 0, .int x, .int y] S (fun r u => r = some (.int ((-2))) ∧ u = S) := by
  refine EX.of mok_N_pay (Nat.le_of_ble_eq_true rfl) ?_
  refine run_ok 2 (c' := (2, [(0, .ref 0), (1, .int x), (2, .int y)], [.int x, .ref 0], S)) rfl ?_
  refine x_callV [.int x] rfl cv_N_isBoat.1 lk_6_107 cv_N_isBoat.2.1 cv_N_isBoat.2.2.1 rfl cv_N_isBoat.2.2.2.1 rfl rfl (Nat.le_of_ble_eq_true rfl) (by decide) cv_N_isBoat.2.2.2.2 (c_isBoat S (x) (tnb T) t9) ?_
  rintro r u ⟨hr, hu⟩
  rw [hr, hu]
  clear hr hu r u
  refine x_ifB_eq 16 rfl rfl (fun h5 => ?_) (fun h5 => ?_)
  · refine run_ok 1 (c' := (18, [(0, .ref 0), (1, .int x), (2, .int y)], [.int (-2)], S)) rfl ?_
    exact x_ret (r := some (.int (-2))) rfl rfl trivial ⟨rfl, rfl⟩ rfl
  · refine run_ok 2 (c' := (10, [(0, .ref 0), (1, .int x), (2, .int y)], [.int (nI 2), .int y], S)) rfl ?_
    refine x_callS [.int y, .int (nI 2)] rfl cs_N_isBelow.1 lk_6_73 cs_N_isBelow.2.1 rfl rfl (Nat.le_of_ble_eq_true rfl) (by decide) cs_N_isBelow.2.2 (c_isBelow S (y) (nI 2)) ?_
    rintro r u ⟨hr, hu⟩
    rw [hr, hu]
    clear hr hu r u
    refine x_ifB_ne 19 rfl rfl (fun h13 => ?_) (fun h13 => ?_)
    · exact absurd ⟨h5, h13⟩ hbad
    · refine run_ok 1 (c' := (18, [(0, .ref 0), (1, .int x), (2, .int y)], [.int (-2)], S)) rfl ?_
      exact x_ret (r := some (.int (-2))) rfl rfl trivial ⟨rfl, rfl⟩ rfl

set_option maxHeartbeats 2000000 in
theorem c_pay_ok0 (S : ST) (T : TD) (hT : TR 5 T S) (hto : tok T) (hne : tne T ≤ 8) (k : Nat) (hk : k < tnb T) : EX me_N_pay 6 [.ref 0, .int (nI k), .int (nI 0)] S (fun r u => r = some (.int (whv (pyf T k 24).1)) ∧ fr CQ S u) := by
  refine EX.of mok_N_pay (Nat.le_of_ble_eq_true rfl) ?_
  obtain ⟨n8, n9, hbt, het, hht, hlo⟩ := id hto
  obtain ⟨t1, t2, t3, t4, t5, t6, t7, t8, t9, t10, t11⟩ := id hT
  refine run_ok 2 (c' := (2, [(0, .ref 0), (1, .int (nI k)), (2, .int (nI 0))], [.int (nI k), .ref 0], S)) rfl ?_
  refine x_callV [.int (nI k)] rfl cv_N_isBoat.1 lk_6_107 cv_N_isBoat.2.1 cv_N_isBoat.2.2.1 rfl cv_N_isBoat.2.2.2.1 rfl rfl (Nat.le_of_ble_eq_true rfl) (by decide) cv_N_isBoat.2.2.2.2 (c_isBoat S (nI k) (tnb T) t9) ?_
  rintro r u ⟨hr, hu⟩
  rw [hr, hu]
  clear hr hu r u
  refine x_ifB_eq 16 rfl rfl (fun hn => absurd hn (fun z => z (inr_t hk (by omega)))) (fun h5 => ?_)
  refine run_ok 2 (c' := (10, [(0, .ref 0), (1, .int (nI k)), (2, .int (nI 0))], [.int (nI 2), .int (nI 0)], S)) rfl ?_
  refine x_callS [.int (nI 0), .int (nI 2)] rfl cs_N_isBelow.1 lk_6_73 cs_N_isBelow.2.1 rfl rfl (Nat.le_of_ble_eq_true rfl) (by decide) cs_N_isBelow.2.2 (c_isBelow S (nI 0) (nI 2)) ?_
  rintro r u ⟨hr, hu⟩
  rw [hr, hu]
  clear hr hu r u
  refine x_ifB_ne 19 rfl rfl (fun h13 => ?_) (fun hn => absurd (inr_t (by decide) (by decide)) hn)
  refine run_ok 2 (c' := (21, [(0, .ref 0), (1, .int (nI k)), (2, .int (nI 0))], [.int (nI k), .ref 0], S)) rfl ?_
  refine x_callV [.int (nI k)] rfl cv_N_seekPay.1 lk_6_199 cv_N_seekPay.2.1 cv_N_seekPay.2.2.1 rfl cv_N_seekPay.2.2.2.1 rfl rfl (Nat.le_of_ble_eq_true rfl) (by decide) cv_N_seekPay.2.2.2.2 (c_seekPay S T hT hto hne k hk) ?_
  rintro r u ⟨hr, hbu, hfu⟩
  rw [hr]
  clear hr r
  have hb1 := hbu.1
  have hb2 := hbu.2
  refine run_ok 1 (c' := (25, [(0, .ref 0), (1, .int (nI k)), (2, .int (nI 0))], [.int (nI 0)], u)) rfl ?_
  refine x_ifN_ne 38 rfl rfl (by omega) (fun hn => absurd (by decide) hn) (fun h25 => ?_)
  refine run_ok 3 (c' := (35, [(0, .ref 0), (1, .int (nI k)), (2, .int (nI 0))], [.int (u.1 36 0)], u)) rfl ?_
  refine x_top (v' := whv (pyf T k 24).1) hb1 ?_
  refine run_ok 1 (c' := (45, [(0, .ref 0), (1, .int (nI k)), (2, .int (nI 0))], [.int (whv (pyf T k 24).1)], u)) rfl ?_
  exact x_ret (r := some (.int (whv (pyf T k 24).1))) rfl rfl trivial ⟨rfl, hfu⟩ rfl

set_option maxHeartbeats 2000000 in
theorem c_pay_ok1 (S : ST) (T : TD) (hT : TR 5 T S) (hto : tok T) (hne : tne T ≤ 8) (k : Nat) (hk : k < tnb T) : EX me_N_pay 6 [.ref 0, .int (nI k), .int (nI 1)] S (fun r u => r = some (.int (nI (pyf T k 24).2)) ∧ fr CQ S u) := by
  refine EX.of mok_N_pay (Nat.le_of_ble_eq_true rfl) ?_
  obtain ⟨n8, n9, hbt, het, hht, hlo⟩ := id hto
  obtain ⟨t1, t2, t3, t4, t5, t6, t7, t8, t9, t10, t11⟩ := id hT
  refine run_ok 2 (c' := (2, [(0, .ref 0), (1, .int (nI k)), (2, .int (nI 1))], [.int (nI k), .ref 0], S)) rfl ?_
  refine x_callV [.int (nI k)] rfl cv_N_isBoat.1 lk_6_107 cv_N_isBoat.2.1 cv_N_isBoat.2.2.1 rfl cv_N_isBoat.2.2.2.1 rfl rfl (Nat.le_of_ble_eq_true rfl) (by decide) cv_N_isBoat.2.2.2.2 (c_isBoat S (nI k) (tnb T) t9) ?_
  rintro r u ⟨hr, hu⟩
  rw [hr, hu]
  clear hr hu r u
  refine x_ifB_eq 16 rfl rfl (fun hn => absurd hn (fun z => z (inr_t hk (by omega)))) (fun h5 => ?_)
  refine run_ok 2 (c' := (10, [(0, .ref 0), (1, .int (nI k)), (2, .int (nI 1))], [.int (nI 2), .int (nI 1)], S)) rfl ?_
  refine x_callS [.int (nI 1), .int (nI 2)] rfl cs_N_isBelow.1 lk_6_73 cs_N_isBelow.2.1 rfl rfl (Nat.le_of_ble_eq_true rfl) (by decide) cs_N_isBelow.2.2 (c_isBelow S (nI 1) (nI 2)) ?_
  rintro r u ⟨hr, hu⟩
  rw [hr, hu]
  clear hr hu r u
  refine x_ifB_ne 19 rfl rfl (fun h13 => ?_) (fun hn => absurd (inr_t (by decide) (by decide)) hn)
  refine run_ok 2 (c' := (21, [(0, .ref 0), (1, .int (nI k)), (2, .int (nI 1))], [.int (nI k), .ref 0], S)) rfl ?_
  refine x_callV [.int (nI k)] rfl cv_N_seekPay.1 lk_6_199 cv_N_seekPay.2.1 cv_N_seekPay.2.2.1 rfl cv_N_seekPay.2.2.2.1 rfl rfl (Nat.le_of_ble_eq_true rfl) (by decide) cv_N_seekPay.2.2.2.2 (c_seekPay S T hT hto hne k hk) ?_
  rintro r u ⟨hr, hbu, hfu⟩
  rw [hr]
  clear hr r
  have hb1 := hbu.1
  have hb2 := hbu.2
  refine run_ok 1 (c' := (25, [(0, .ref 0), (1, .int (nI k)), (2, .int (nI 1))], [.int (nI 1)], u)) rfl ?_
  refine x_ifN_ne 38 rfl rfl (by omega) (fun h25 => ?_) (fun hn => absurd hn (by decide))
  refine run_ok 3 (c' := (45, [(0, .ref 0), (1, .int (nI k)), (2, .int (nI 1))], [.int (u.1 36 1)], u)) rfl ?_
  refine x_top (v' := nI ((pyf T k 24).2)) hb2 ?_
  exact x_ret (r := some (.int (nI ((pyf T k 24).2)))) rfl rfl trivial ⟨rfl, hfu⟩ rfl

set_option maxHeartbeats 2000000 in
theorem c_waits_bad (S : ST) (T : TD) (t9 : S.1 5 6 = nI (tnb T)) (x y : Int32) (hbad : ¬ ((0 ≤ x ∧ x < nI (tnb T)) ∧ (0 ≤ y ∧ y < nI 2))) : EX me_N_waits 6 [.ref 0, .int x, .int y] S (fun r u => r = some (.int ((-2))) ∧ u = S) := by
  refine EX.of mok_N_waits (Nat.le_of_ble_eq_true rfl) ?_
  refine run_ok 2 (c' := (2, [(0, .ref 0), (1, .int x), (2, .int y)], [.int x, .ref 0], S)) rfl ?_
  refine x_callV [.int x] rfl cv_N_isBoat.1 lk_6_107 cv_N_isBoat.2.1 cv_N_isBoat.2.2.1 rfl cv_N_isBoat.2.2.2.1 rfl rfl (Nat.le_of_ble_eq_true rfl) (by decide) cv_N_isBoat.2.2.2.2 (c_isBoat S (x) (tnb T) t9) ?_
  rintro r u ⟨hr, hu⟩
  rw [hr, hu]
  clear hr hu r u
  refine x_ifB_eq 16 rfl rfl (fun h5 => ?_) (fun h5 => ?_)
  · refine run_ok 1 (c' := (18, [(0, .ref 0), (1, .int x), (2, .int y)], [.int (-2)], S)) rfl ?_
    exact x_ret (r := some (.int (-2))) rfl rfl trivial ⟨rfl, rfl⟩ rfl
  · refine run_ok 2 (c' := (10, [(0, .ref 0), (1, .int x), (2, .int y)], [.int (nI 2), .int y], S)) rfl ?_
    refine x_callS [.int y, .int (nI 2)] rfl cs_N_isBelow.1 lk_6_73 cs_N_isBelow.2.1 rfl rfl (Nat.le_of_ble_eq_true rfl) (by decide) cs_N_isBelow.2.2 (c_isBelow S (y) (nI 2)) ?_
    rintro r u ⟨hr, hu⟩
    rw [hr, hu]
    clear hr hu r u
    refine x_ifB_ne 19 rfl rfl (fun h13 => ?_) (fun h13 => ?_)
    · exact absurd ⟨h5, h13⟩ hbad
    · refine run_ok 1 (c' := (18, [(0, .ref 0), (1, .int x), (2, .int y)], [.int (-2)], S)) rfl ?_
      exact x_ret (r := some (.int (-2))) rfl rfl trivial ⟨rfl, rfl⟩ rfl

set_option maxHeartbeats 2000000 in
theorem c_waits_ok0 (S : ST) (T : TD) (hT : TR 5 T S) (hto : tok T) (hne : tne T ≤ 8) (k : Nat) (hk : k < tnb T) : EX me_N_waits 6 [.ref 0, .int (nI k), .int (nI 0)] S (fun r u => r = some (.int (whv (waf T k 24).1)) ∧ fr CQ S u) := by
  refine EX.of mok_N_waits (Nat.le_of_ble_eq_true rfl) ?_
  obtain ⟨n8, n9, hbt, het, hht, hlo⟩ := id hto
  obtain ⟨t1, t2, t3, t4, t5, t6, t7, t8, t9, t10, t11⟩ := id hT
  refine run_ok 2 (c' := (2, [(0, .ref 0), (1, .int (nI k)), (2, .int (nI 0))], [.int (nI k), .ref 0], S)) rfl ?_
  refine x_callV [.int (nI k)] rfl cv_N_isBoat.1 lk_6_107 cv_N_isBoat.2.1 cv_N_isBoat.2.2.1 rfl cv_N_isBoat.2.2.2.1 rfl rfl (Nat.le_of_ble_eq_true rfl) (by decide) cv_N_isBoat.2.2.2.2 (c_isBoat S (nI k) (tnb T) t9) ?_
  rintro r u ⟨hr, hu⟩
  rw [hr, hu]
  clear hr hu r u
  refine x_ifB_eq 16 rfl rfl (fun hn => absurd hn (fun z => z (inr_t hk (by omega)))) (fun h5 => ?_)
  refine run_ok 2 (c' := (10, [(0, .ref 0), (1, .int (nI k)), (2, .int (nI 0))], [.int (nI 2), .int (nI 0)], S)) rfl ?_
  refine x_callS [.int (nI 0), .int (nI 2)] rfl cs_N_isBelow.1 lk_6_73 cs_N_isBelow.2.1 rfl rfl (Nat.le_of_ble_eq_true rfl) (by decide) cs_N_isBelow.2.2 (c_isBelow S (nI 0) (nI 2)) ?_
  rintro r u ⟨hr, hu⟩
  rw [hr, hu]
  clear hr hu r u
  refine x_ifB_ne 19 rfl rfl (fun h13 => ?_) (fun hn => absurd (inr_t (by decide) (by decide)) hn)
  refine run_ok 2 (c' := (21, [(0, .ref 0), (1, .int (nI k)), (2, .int (nI 0))], [.int (nI k), .ref 0], S)) rfl ?_
  refine x_callV [.int (nI k)] rfl cv_N_seekWait.1 lk_6_202 cv_N_seekWait.2.1 cv_N_seekWait.2.2.1 rfl cv_N_seekWait.2.2.2.1 rfl rfl (Nat.le_of_ble_eq_true rfl) (by decide) cv_N_seekWait.2.2.2.2 (c_seekWait S T hT hto hne k hk) ?_
  rintro r u ⟨hr, hbu, hfu⟩
  rw [hr]
  clear hr r
  have hb1 := hbu.1
  have hb2 := hbu.2
  refine run_ok 1 (c' := (25, [(0, .ref 0), (1, .int (nI k)), (2, .int (nI 0))], [.int (nI 0)], u)) rfl ?_
  refine x_ifN_ne 38 rfl rfl (by omega) (fun hn => absurd (by decide) hn) (fun h25 => ?_)
  refine run_ok 3 (c' := (35, [(0, .ref 0), (1, .int (nI k)), (2, .int (nI 0))], [.int (u.1 36 0)], u)) rfl ?_
  refine x_top (v' := whv (waf T k 24).1) hb1 ?_
  refine run_ok 1 (c' := (46, [(0, .ref 0), (1, .int (nI k)), (2, .int (nI 0))], [.int (whv (waf T k 24).1)], u)) rfl ?_
  exact x_ret (r := some (.int (whv (waf T k 24).1))) rfl rfl trivial ⟨rfl, hfu⟩ rfl

set_option maxHeartbeats 2000000 in
theorem c_waits_ok1 (S : ST) (T : TD) (hT : TR 5 T S) (hto : tok T) (hne : tne T ≤ 8) (k : Nat) (hk : k < tnb T) : EX me_N_waits 6 [.ref 0, .int (nI k), .int (nI 1)] S (fun r u => r = some (.int (nI (waf T k 24).2)) ∧ fr CQ S u) := by
  refine EX.of mok_N_waits (Nat.le_of_ble_eq_true rfl) ?_
  obtain ⟨n8, n9, hbt, het, hht, hlo⟩ := id hto
  obtain ⟨t1, t2, t3, t4, t5, t6, t7, t8, t9, t10, t11⟩ := id hT
  refine run_ok 2 (c' := (2, [(0, .ref 0), (1, .int (nI k)), (2, .int (nI 1))], [.int (nI k), .ref 0], S)) rfl ?_
  refine x_callV [.int (nI k)] rfl cv_N_isBoat.1 lk_6_107 cv_N_isBoat.2.1 cv_N_isBoat.2.2.1 rfl cv_N_isBoat.2.2.2.1 rfl rfl (Nat.le_of_ble_eq_true rfl) (by decide) cv_N_isBoat.2.2.2.2 (c_isBoat S (nI k) (tnb T) t9) ?_
  rintro r u ⟨hr, hu⟩
  rw [hr, hu]
  clear hr hu r u
  refine x_ifB_eq 16 rfl rfl (fun hn => absurd hn (fun z => z (inr_t hk (by omega)))) (fun h5 => ?_)
  refine run_ok 2 (c' := (10, [(0, .ref 0), (1, .int (nI k)), (2, .int (nI 1))], [.int (nI 2), .int (nI 1)], S)) rfl ?_
  refine x_callS [.int (nI 1), .int (nI 2)] rfl cs_N_isBelow.1 lk_6_73 cs_N_isBelow.2.1 rfl rfl (Nat.le_of_ble_eq_true rfl) (by decide) cs_N_isBelow.2.2 (c_isBelow S (nI 1) (nI 2)) ?_
  rintro r u ⟨hr, hu⟩
  rw [hr, hu]
  clear hr hu r u
  refine x_ifB_ne 19 rfl rfl (fun h13 => ?_) (fun hn => absurd (inr_t (by decide) (by decide)) hn)
  refine run_ok 2 (c' := (21, [(0, .ref 0), (1, .int (nI k)), (2, .int (nI 1))], [.int (nI k), .ref 0], S)) rfl ?_
  refine x_callV [.int (nI k)] rfl cv_N_seekWait.1 lk_6_202 cv_N_seekWait.2.1 cv_N_seekWait.2.2.1 rfl cv_N_seekWait.2.2.2.1 rfl rfl (Nat.le_of_ble_eq_true rfl) (by decide) cv_N_seekWait.2.2.2.2 (c_seekWait S T hT hto hne k hk) ?_
  rintro r u ⟨hr, hbu, hfu⟩
  rw [hr]
  clear hr r
  have hb1 := hbu.1
  have hb2 := hbu.2
  refine run_ok 1 (c' := (25, [(0, .ref 0), (1, .int (nI k)), (2, .int (nI 1))], [.int (nI 1)], u)) rfl ?_
  refine x_ifN_ne 38 rfl rfl (by omega) (fun h25 => ?_) (fun hn => absurd hn (by decide))
  refine run_ok 3 (c' := (45, [(0, .ref 0), (1, .int (nI k)), (2, .int (nI 1))], [.int (u.1 36 1)], u)) rfl ?_
  refine x_top (v' := -(nI (waf T k 24).2)) hb2 ?_
  refine run_ok 1 (c' := (46, [(0, .ref 0), (1, .int (nI k)), (2, .int (nI 1))], [.int (-(-(nI (waf T k 24).2)))], u)) rfl ?_
  refine x_top (v' := nI (waf T k 24).2) (Int32.neg_neg) ?_
  exact x_ret (r := some (.int (nI ((waf T k 24).2)))) rfl rfl trivial ⟨rfl, hfu⟩ rfl


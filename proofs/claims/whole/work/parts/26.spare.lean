/-! what is spared; what never was; sorts; hates, by what was seen -/
theorem sh1 {e : Nat} (he : e < 31) : nI 1 <<< (nI e &&& 31) = nI (2 ^ e) := by
  rw [pk_shlN _ e (sl32 e (by omega)) (by rw [Nat.one_mul]; exact Nat.pow_lt_pow_right (by decide) (by omega)), Nat.one_mul]
theorem p9 {e : Nat} (he : e < 9) : 2 ^ e < 512 := Nat.pow_lt_pow_right (by decide) he
def fwl (T : TD) (m : Nat) : Prop := vfw (vo (wlo T m) 24) = 24
theorem wlo_TR {t : Nat} {T : TD} {l m : Nat} {v : ST} (h : TR t (wlo T l) v) (hm : v.1 t 11 = nI m) : TR t (wlo T m) v := by
  obtain ⟨a1, a2, a3, a4, a5, a6, a7, a8, a9, a10, a11⟩ := h
  exact ⟨a1, a2, a3, a4, a5, a6, a7, a8, a9, a10, hm⟩
theorem wlo_self (T : TD) : wlo T (tlo T) = T := rfl
set_option maxHeartbeats 2000000 in
theorem c_isSafe (S : ST) (T : TD) (l m : Nat) (hTl : TR 14 (wlo T l) S) (hto : tok T) (hm : m < 512) : EX me_N_isSafeWithout 5 [.ref 0, .int (nI m)] S (fun r u => r = some (.int (b2 (vfw (vo (wlo T m) 24) = 24))) ∧ TR 14 (wlo T m) u ∧ fr CQ S u) := by
  refine EX.of mok_N_isSafeWithout (Nat.le_of_ble_eq_true rfl) ?_
  refine run_ok 4 (c' := (8, [(0, .ref 0), (1, .int (nI m))], [], (pt S 14 11 (nI m)))) rfl ?_
  have hTm : TR 14 (wlo T m) (pt S 14 11 (nI m)) := ⟨hTl.1, hTl.2.1, hTl.2.2.1, hTl.2.2.2.1, hTl.2.2.2.2.1, hTl.2.2.2.2.2.1, hTl.2.2.2.2.2.2.1, hTl.2.2.2.2.2.2.2.1, hTl.2.2.2.2.2.2.2.2.1, hTl.2.2.2.2.2.2.2.2.2.1, rfl⟩
  refine run_ok 5 (c' := (18, [(0, .ref 0), (1, .int (nI m))], [.int (nI 23), .ref 14, .ref 23], (pt S 14 11 (nI m)))) rfl ?_
  refine x_callV [.ref 14, .int (nI 23)] rfl cv_V_run.1 lk_6_146 cv_V_run.2.1 cv_V_run.2.2.1 rfl cv_V_run.2.2.2.1 rfl rfl (Nat.le_of_ble_eq_true rfl) (by decide) cv_V_run.2.2.2.2 (c_run14 (pt S 14 11 (nI m)) (wlo T m) 23 hTm (tok_wlo hto hm) (by omega)) ?_
  rintro r u ⟨hr, hCu, hfu, h2u⟩
  rw [hr]
  clear hr r
  have g10 := hCu.2.2.2.2.2.2.2.2.1
  refine run_ok 3 (c' := (28, [(0, .ref 0), (1, .int (nI m))], [.int (u.1 23 10)], u)) rfl ?_
  refine x_top (v' := fwv (vfw (vo (wlo T m) 24))) g10 ?_
  refine run_ok 1 (c' := (29, [(0, .ref 0), (1, .int (nI m))], [.int (-1), .int (fwv (vfw (vo (wlo T m) 24)))], u)) rfl ?_
  refine x_icmp_ne 36 rfl rfl (fun h29 => ?_) (fun h29 => ?_)
  · refine run_ok 1 (c' := (37, [(0, .ref 0), (1, .int (nI m))], [.int (nI 0)], u)) rfl ?_
    exact x_ret (r := some (.int (nI 0))) rfl rfl (Or.inl rfl) ⟨congrArg (fun z => some (Value.int z)) (b2_f (fun z => h29 ((fwv_n1 (vk_vo (tok_wlo hto hm) 24 (by omega)).1.2.2.2.1).mpr z))).symm, hTm.keep hfu (by decide), ((fr.rf.pt (by decide)).tr (hfu.sub (by decide)))⟩ rfl
  · refine run_ok 2 (c' := (37, [(0, .ref 0), (1, .int (nI m))], [.int (nI 1)], u)) rfl ?_
    exact x_ret (r := some (.int (nI 1))) rfl rfl (Or.inr rfl) ⟨congrArg (fun z => some (Value.int z)) (b2_t ((fwv_n1 (vk_vo (tok_wlo hto hm) 24 (by omega)).1.2.2.2.1).mp h29)).symm, hTm.keep hfu (by decide), ((fr.rf.pt (by decide)).tr (hfu.sub (by decide)))⟩ rfl

/-- the first event without which, or the first two without which, no boat is sunk -/
def sp1 (T : TD) : Nat → Nat → Option Nat
  | 0, _ => none
  | n + 1, e => if vfw (vo (wlo T (2 ^ e)) 24) = 24 then some e else sp1 T n (e + 1)
def sp2 (T : TD) (e : Nat) : Nat → Nat → Option Nat
  | 0, _ => none
  | n + 1, f => if vfw (vo (wlo T (2 ^ e + 2 ^ f)) 24) = 24 then some f else sp2 T e n (f + 1)
def sp3 (T : TD) : Nat → Nat → Option (Nat × Nat)
  | 0, _ => none
  | n + 1, e => match sp2 T e n (e + 1) with
    | some f => some (e, f)
    | none => sp3 T n (e + 1)
def spb (T : TD) : Option Nat := if vfw (vo (wlo T 0) 24) = 24 then some 0 else match sp1 T (tne T) 0 with
  | some e => some (2 ^ e)
  | none => match sp3 T (tne T) 0 with
    | some q => some (2 ^ q.1 + 2 ^ q.2)
    | none => none
def spv (o : Option Nat) : Int32 := match o with
  | some m => nI m
  | none => (-1)
theorem or2 {e f : Nat} (h : e < f) (hf : f < 31) : nI (2 ^ e) ||| nI (2 ^ f) = nI (2 ^ e + 2 ^ f) := by
  have h1 : 2 ^ e < 2 ^ f := Nat.pow_lt_pow_right (by decide) h
  have := or_bit (a := 2 ^ e) (i := f) h1 (by omega)
  rw [sh1 hf, Nat.one_mul] at this
  exact this
theorem p2le {e f : Nat} (h : e < f) (hf : f < 9) : 2 ^ e + 2 ^ f < 512 := by
  have h1 : 2 ^ e < 2 ^ f := Nat.pow_lt_pow_right (by decide) h
  have h2 : 2 ^ f ≤ 2 ^ 8 := Nat.pow_le_pow_right (by decide) (by omega)
  omega
set_option maxHeartbeats 2000000 in
theorem c_spareBits (S : ST) (T : TD) (hT : TR 5 T S) (hto : tok T) (hne : tne T ≤ 8) : EX me_N_spareBits 6 [.ref 0] S (fun r u => r = some (.int (spv (spb T))) ∧ fr CQ S u) := by
  refine EX.of mok_N_spareBits (Nat.le_of_ble_eq_true rfl) ?_
  obtain ⟨n8, n9, hbt, het, hht, hlo⟩ := id hto
  obtain ⟨t1, t2, t3, t4, t5, t6, t7, t8, t9, t10, t11⟩ := id hT
  have H2 : ∀ i, i ≤ tne T → spb T = (sp3 T (tne T - i) i).map (fun q => 2 ^ q.1 + 2 ^ q.2) → ∀ (v : ST) (l : Nat), TR 14 (wlo T l) v → fr CQ S v → BX me_N_spareBits 6 none (fun r u => r = some (.int (spv (spb T))) ∧ fr CQ S u) (56, [(0, .ref 0), (1, .int (nI i))], [], v) := by
    refine loop_up (P := fun i => spb T = (sp3 T (tne T - i) i).map (fun q => 2 ^ q.1 + 2 ^ q.2) → ∀ (v : ST) (l : Nat), TR 14 (wlo T l) v → fr CQ S v → BX me_N_spareBits 6 none (fun r u => r = some (.int (spv (spb T))) ∧ fr CQ S u) (56, [(0, .ref 0), (1, .int (nI i))], [], v)) (tne T) ?_ ?_
    · intro hs v l hTv hfv
      have t10v : v.1 5 10 = nI (tne T) := by rw [hfv 5 (by decide)]; exact t10
      refine run_ok 4 (c' := (64, [(0, .ref 0), (1, .int (nI (tne T)))], [.int (v.1 5 10), .int (nI (tne T))], v)) rfl ?_
      refine x_top (v' := nI (tne T)) t10v ?_
      refine x_icmpN_ge 116 rfl rfl (by omega) (by omega) (fun h64 => ?_) (fun hn => absurd (Nat.le_refl _) hn)
      refine run_ok 1 (c' := (117, [(0, .ref 0), (1, .int (nI (tne T)))], [.int (-1)], v)) rfl ?_
      exact x_ret (r := some (.int (-1))) rfl rfl trivial ⟨by rw [hs, Nat.sub_self]; rfl, hfv⟩ rfl
    · intro i hi ih hs v l hTv hfv
      have t10v : v.1 5 10 = nI (tne T) := by rw [hfv 5 (by decide)]; exact t10
      have H3 : ∀ j, j ≤ tne T → i < j → spb T = ((sp2 T i (tne T - j) j).map (fun f => 2 ^ i + 2 ^ f)).or ((sp3 T (tne T - (i + 1)) (i + 1)).map (fun q => 2 ^ q.1 + 2 ^ q.2)) → ∀ (v : ST) (l : Nat), TR 14 (wlo T l) v → fr CQ S v → BX me_N_spareBits 6 none (fun r u => r = some (.int (spv (spb T))) ∧ fr CQ S u) (71, [(0, .ref 0), (1, .int (nI i)), (2, .int (nI j))], [], v) := by
        refine loop_up (P := fun j => i < j → spb T = ((sp2 T i (tne T - j) j).map (fun f => 2 ^ i + 2 ^ f)).or ((sp3 T (tne T - (i + 1)) (i + 1)).map (fun q => 2 ^ q.1 + 2 ^ q.2)) → ∀ (v : ST) (l : Nat), TR 14 (wlo T l) v → fr CQ S v → BX me_N_spareBits 6 none (fun r u => r = some (.int (spv (spb T))) ∧ fr CQ S u) (71, [(0, .ref 0), (1, .int (nI i)), (2, .int (nI j))], [], v)) (tne T) ?_ ?_
        · intro hij hs2 v l hTv hfv
          have t10v : v.1 5 10 = nI (tne T) := by rw [hfv 5 (by decide)]; exact t10
          refine run_ok 4 (c' := (79, [(0, .ref 0), (1, .int (nI i)), (2, .int (nI (tne T)))], [.int (v.1 5 10), .int (nI (tne T))], v)) rfl ?_
          refine x_top (v' := nI (tne T)) t10v ?_
          refine x_icmpN_ge 110 rfl rfl (by omega) (by omega) (fun h79 => ?_) (fun hn => absurd (Nat.le_refl _) hn)
          refine run_ok 1 (c' := (113, [(0, .ref 0), (1, .int (nI i + nI 1)), (2, .int (nI (tne T)))], [], v)) rfl ?_
          rw [nI_add i 1]
          refine run_ok 1 (c' := (56, [(0, .ref 0), (1, .int (nI (i + 1))), (2, .int (nI (tne T)))], [], v)) rfl ?_
          refine x_less [0, 1] rfl ?_
          exact ih (by rw [hs2, Nat.sub_self]; rfl) v l hTv hfv
        · intro j hj ihj hij hs2 v l hTv hfv
          have t10v : v.1 5 10 = nI (tne T) := by rw [hfv 5 (by decide)]; exact t10
          refine run_ok 4 (c' := (79, [(0, .ref 0), (1, .int (nI i)), (2, .int (nI j))], [.int (v.1 5 10), .int (nI j)], v)) rfl ?_
          refine x_top (v' := nI (tne T)) t10v ?_
          refine x_icmpN_ge 110 rfl rfl (by omega) (by omega) (fun hn => absurd hn (show ¬ tne T ≤ j by omega)) (fun h79 => ?_)
          refine run_ok 4 (c' := (86, [(0, .ref 0), (1, .int (nI i)), (2, .int (nI j))], [.int ((nI 1) <<< ((nI i) &&& 31)), .ref 0], v)) rfl ?_
          refine x_top (v' := nI (2 ^ i)) (sh1 (by omega)) ?_
          refine run_ok 3 (c' := (89, [(0, .ref 0), (1, .int (nI i)), (2, .int (nI j))], [.int ((nI 1) <<< ((nI j) &&& 31)), .int (nI (2 ^ i)), .ref 0], v)) rfl ?_
          refine x_top (v' := nI (2 ^ j)) (sh1 (by omega)) ?_
          refine run_ok 1 (c' := (90, [(0, .ref 0), (1, .int (nI i)), (2, .int (nI j))], [.int ((nI (2 ^ i)) ||| (nI (2 ^ j))), .ref 0], v)) rfl ?_
          refine x_top (v' := nI (2 ^ i + 2 ^ j)) (or2 (by omega) (by omega)) ?_
          refine x_callV [.int (nI (2 ^ i + 2 ^ j))] rfl cv_N_isSafeWithout.1 lk_6_359 cv_N_isSafeWithout.2.1 cv_N_isSafeWithout.2.2.1 rfl cv_N_isSafeWithout.2.2.2.1 rfl rfl (Nat.le_of_ble_eq_true rfl) (by decide) cv_N_isSafeWithout.2.2.2.2 (c_isSafe v T l (2 ^ i + 2 ^ j) hTv hto (p2le (by omega) (by omega))) ?_
          rintro r z ⟨hr, hTz, hfz⟩
          rw [hr]
          clear hr r
          refine x_ifB_eq 104 rfl rfl (fun h93 => ?_) (fun h93 => ?_)
          · refine run_ok 1 (c' := (107, [(0, .ref 0), (1, .int (nI i)), (2, .int (nI j + nI 1))], [], z)) rfl ?_
            rw [nI_add j 1]
            refine run_ok 1 (c' := (71, [(0, .ref 0), (1, .int (nI i)), (2, .int (nI (j + 1)))], [], z)) rfl ?_
            refine ihj (by omega) ?_ z _ hTz (hfv.tr hfz)
            rw [hs2, show tne T - j = (tne T - (j + 1)) + 1 by omega]
            rw [show sp2 T i (tne T - (j + 1) + 1) j = sp2 T i (tne T - (j + 1)) (j + 1) from if_neg h93]
          · refine run_ok 3 (c' := (99, [(0, .ref 0), (1, .int (nI i)), (2, .int (nI j))], [.int ((nI 1) <<< ((nI i) &&& 31))], z)) rfl ?_
            refine x_top (v' := nI (2 ^ i)) (sh1 (by omega)) ?_
            refine run_ok 3 (c' := (102, [(0, .ref 0), (1, .int (nI i)), (2, .int (nI j))], [.int ((nI 1) <<< ((nI j) &&& 31)), .int (nI (2 ^ i))], z)) rfl ?_
            refine x_top (v' := nI (2 ^ j)) (sh1 (by omega)) ?_
            refine run_ok 1 (c' := (103, [(0, .ref 0), (1, .int (nI i)), (2, .int (nI j))], [.int ((nI (2 ^ i)) ||| (nI (2 ^ j)))], z)) rfl ?_
            refine x_top (v' := nI (2 ^ i + 2 ^ j)) (or2 (by omega) (by omega)) ?_
            exact x_ret (r := some (.int (nI (2 ^ i + 2 ^ j)))) rfl rfl trivial ⟨by rw [hs2, show tne T - j = (tne T - (j + 1)) + 1 by omega, show sp2 T i (tne T - (j + 1) + 1) j = some j from if_pos h93]; rfl, hfv.tr hfz⟩ rfl
      refine run_ok 4 (c' := (64, [(0, .ref 0), (1, .int (nI i))], [.int (v.1 5 10), .int (nI i)], v)) rfl ?_
      refine x_top (v' := nI (tne T)) t10v ?_
      refine x_icmpN_ge 116 rfl rfl (by omega) (by omega) (fun hn => absurd hn (show ¬ tne T ≤ i by omega)) (fun h64 => ?_)
      refine run_ok 3 (c' := (70, [(0, .ref 0), (1, .int (nI i))], [.int ((nI i) + (nI 1))], v)) rfl ?_
      refine x_top (v' := nI (i + 1)) (nI_add _ _) ?_
      refine run_ok 1 (c' := (71, [(0, .ref 0), (1, .int (nI i)), (2, .int (nI (i + 1)))], [], v)) rfl ?_
      refine H3 (i + 1) (by omega) (by omega) ?_ v l hTv hfv
      rw [hs, show tne T - i = (tne T - (i + 1)) + 1 by omega]
      show Option.map _ (match sp2 T i (tne T - (i + 1)) (i + 1) with
        | some f => some (i, f)
        | none => sp3 T (tne T - (i + 1)) (i + 1)) = _
      cases sp2 T i (tne T - (i + 1)) (i + 1) <;> rfl
  have H1 : ∀ i, i ≤ tne T → spb T = ((sp1 T (tne T - i) i).map (fun e => 2 ^ e)).or ((sp3 T (tne T) 0).map (fun q => 2 ^ q.1 + 2 ^ q.2)) → ∀ (v : ST) (l : Nat), TR 14 (wlo T l) v → fr CQ S v → BX me_N_spareBits 6 none (fun r u => r = some (.int (spv (spb T))) ∧ fr CQ S u) (23, [(0, .ref 0), (1, .int (nI i))], [], v) := by
    refine loop_up (P := fun i => spb T = ((sp1 T (tne T - i) i).map (fun e => 2 ^ e)).or ((sp3 T (tne T) 0).map (fun q => 2 ^ q.1 + 2 ^ q.2)) → ∀ (v : ST) (l : Nat), TR 14 (wlo T l) v → fr CQ S v → BX me_N_spareBits 6 none (fun r u => r = some (.int (spv (spb T))) ∧ fr CQ S u) (23, [(0, .ref 0), (1, .int (nI i))], [], v)) (tne T) ?_ ?_
    · intro hs v l hTv hfv
      have t10v : v.1 5 10 = nI (tne T) := by rw [hfv 5 (by decide)]; exact t10
      refine run_ok 4 (c' := (31, [(0, .ref 0), (1, .int (nI (tne T)))], [.int (v.1 5 10), .int (nI (tne T))], v)) rfl ?_
      refine x_top (v' := nI (tne T)) t10v ?_
      refine x_icmpN_ge 54 rfl rfl (by omega) (by omega) (fun h31 => ?_) (fun hn => absurd (Nat.le_refl _) hn)
      refine run_ok 2 (c' := (56, [(0, .ref 0), (1, .int (nI 0))], [], v)) rfl ?_
      exact H2 0 (by omega) (by rw [hs, Nat.sub_self]; rfl) v l hTv hfv
    · intro i hi ih hs v l hTv hfv
      have t10v : v.1 5 10 = nI (tne T) := by rw [hfv 5 (by decide)]; exact t10
      refine run_ok 4 (c' := (31, [(0, .ref 0), (1, .int (nI i))], [.int (v.1 5 10), .int (nI i)], v)) rfl ?_
      refine x_top (v' := nI (tne T)) t10v ?_
      refine x_icmpN_ge 54 rfl rfl (by omega) (by omega) (fun hn => absurd hn (show ¬ tne T ≤ i by omega)) (fun h31 => ?_)
      refine run_ok 4 (c' := (38, [(0, .ref 0), (1, .int (nI i))], [.int ((nI 1) <<< ((nI i) &&& 31)), .ref 0], v)) rfl ?_
      refine x_top (v' := nI (2 ^ i)) (sh1 (by omega)) ?_
      refine x_callV [.int (nI (2 ^ i))] rfl cv_N_isSafeWithout.1 lk_6_359 cv_N_isSafeWithout.2.1 cv_N_isSafeWithout.2.2.1 rfl cv_N_isSafeWithout.2.2.2.1 rfl rfl (Nat.le_of_ble_eq_true rfl) (by decide) cv_N_isSafeWithout.2.2.2.2 (c_isSafe v T l (2 ^ i) hTv hto (p9 (by omega))) ?_
      rintro r z ⟨hr, hTz, hfz⟩
      rw [hr]
      clear hr r
      refine x_ifB_eq 48 rfl rfl (fun h41 => ?_) (fun h41 => ?_)
      · refine run_ok 1 (c' := (51, [(0, .ref 0), (1, .int (nI i + nI 1))], [], z)) rfl ?_
        rw [nI_add i 1]
        refine run_ok 1 (c' := (23, [(0, .ref 0), (1, .int (nI (i + 1)))], [], z)) rfl ?_
        refine ih ?_ z _ hTz (hfv.tr hfz)
        rw [hs, show tne T - i = (tne T - (i + 1)) + 1 by omega]
        rw [show sp1 T (tne T - (i + 1) + 1) i = sp1 T (tne T - (i + 1)) (i + 1) from if_neg h41]
      · refine run_ok 3 (c' := (47, [(0, .ref 0), (1, .int (nI i))], [.int ((nI 1) <<< ((nI i) &&& 31))], z)) rfl ?_
        refine x_top (v' := nI (2 ^ i)) (sh1 (by omega)) ?_
        exact x_ret (r := some (.int (nI (2 ^ i)))) rfl rfl trivial ⟨by rw [hs, show tne T - i = (tne T - (i + 1)) + 1 by omega, show sp1 T (tne T - (i + 1) + 1) i = some i from if_pos h41]; rfl, hfv.tr hfz⟩ rfl
  refine run_ok 4 (c' := (8, [(0, .ref 0)], [.ref 5, .ref 14], S)) rfl ?_
  refine x_callV [.ref 5] rfl cv_T_become.1 lk_6_220 cv_T_become.2.1 cv_T_become.2.2.1 rfl cv_T_become.2.2.2.1 rfl rfl (Nat.le_of_ble_eq_true rfl) (by decide) cv_T_become.2.2.2.2 (c_become S T hT hto hne) ?_
  rintro r v1 ⟨hr, hTb, hfb, h2b⟩
  rw [hr]
  clear hr r
  refine run_ok 2 (c' := (13, [(0, .ref 0)], [.int (nI 0), .ref 0], v1)) rfl ?_
  refine x_callV [.int (nI 0)] rfl cv_N_isSafeWithout.1 lk_6_359 cv_N_isSafeWithout.2.1 cv_N_isSafeWithout.2.2.1 rfl cv_N_isSafeWithout.2.2.2.1 rfl rfl (Nat.le_of_ble_eq_true rfl) (by decide) cv_N_isSafeWithout.2.2.2.2 (c_isSafe v1 T (tlo T) 0 hTb hto (by decide)) ?_
  rintro r z ⟨hr, hTz, hfz⟩
  rw [hr]
  clear hr r
  refine x_ifB_eq 21 rfl rfl (fun h16 => ?_) (fun h16 => ?_)
  · refine run_ok 2 (c' := (23, [(0, .ref 0), (1, .int (nI 0))], [], z)) rfl ?_
    refine H1 0 (by omega) ?_ z _ hTz ((hfb.sub (by decide)).tr hfz)
    unfold spb
    rw [if_neg h16, Nat.sub_zero]
    cases sp1 T (tne T) 0 <;> cases sp3 T (tne T) 0 <;> rfl
  · refine run_ok 1 (c' := (20, [(0, .ref 0)], [.int (nI 0)], z)) rfl ?_
    exact x_ret (r := some (.int (nI 0))) rfl rfl trivial ⟨by unfold spb; rw [if_pos h16]; rfl, (hfb.sub (by decide)).tr hfz⟩ rfl

set_option maxHeartbeats 2000000 in
theorem c_outSo (S : ST) (T : TD) (hT : TR 14 T S) (hto : tok T) (G : SD) (hg : SR G S) (hgo : sok G) : EX me_N_trialComesOutSo 5 [.ref 0] S (fun r u => r = some (.int (b2 (fitb T (vo T 24) G G.1 = true))) ∧ TR 14 T u ∧ CR 14 T (vo T 24) (lsn T 24) u ∧ fr VL S u) := by
  refine EX.of mok_N_trialComesOutSo (Nat.le_of_ble_eq_true rfl) ?_
  refine run_ok 5 (c' := (10, [(0, .ref 0)], [.int (nI 23), .ref 14, .ref 23], S)) rfl ?_
  refine x_callV [.ref 14, .int (nI 23)] rfl cv_V_run.1 lk_6_146 cv_V_run.2.1 cv_V_run.2.2.1 rfl cv_V_run.2.2.2.1 rfl rfl (Nat.le_of_ble_eq_true rfl) (by decide) cv_V_run.2.2.2.2 (c_run14 S T 23 hT hto (by omega)) ?_
  rintro r u ⟨hr, hCu, hfu, h2u⟩
  rw [hr]
  clear hr r
  have h29 := hCu.2.2.2.2.2.1
  refine run_ok 4 (c' := (21, [(0, .ref 0)], [.ref 23, .ref 32], u)) rfl ?_
  refine x_callV [.ref 23] rfl cv_G_fit.1 lk_6_362 cv_G_fit.2.1 cv_G_fit.2.2.1 rfl cv_G_fit.2.2.2.1 rfl rfl (Nat.le_of_ble_eq_true rfl) (by decide) cv_G_fit.2.2.2.2 (c_fit u T (vo T 24) _ (hT.keep hfu (by decide)) hto hCu (vk_vo hto 24 (by omega)).1 G (hg.keep hfu (by decide)) hgo) ?_
  rintro r x ⟨hr, hu⟩
  rw [hr, hu]
  clear hr hu r x
  exact x_ret (r := some (.int (b2 (fitb T (vo T 24) G G.1 = true)))) rfl rfl (b2_01 _) ⟨rfl, hT.keep hfu (by decide), hCu, hfu⟩ rfl


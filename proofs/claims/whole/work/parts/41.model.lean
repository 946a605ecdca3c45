/-! the model: bearing, what befalls -/
/-- the model's own fields but these are as they were -/
def f48 (js : List Nat) (S u : ST) : Prop := ∀ j, j ∉ js → u.1 48 j = S.1 48 j
theorem f48.rf {js : List Nat} {S : ST} : f48 js S S := fun _ _ => rfl
theorem f48.tr {js : List Nat} {S u v : ST} (h : f48 js S u) (h2 : f48 js u v) : f48 js S v := fun k hk => (h2 k hk).trans (h k hk)
theorem f48.sub {js js' : List Nat} {S u : ST} (h : f48 js S u) (hs : ∀ k ∈ js, k ∈ js') : f48 js' S u := fun k hk => h k (fun z => hk (hs k z))
theorem f48.of {ks js : List Nat} {S u : ST} (h : fr ks S u) (hk : 48 ∉ ks) : f48 js S u := fun j _ => by rw [h 48 hk]
theorem f48.two {S : ST} {a b : Int32} : f48 [24, 25] S (pt (pt S 48 25 a) 48 24 b) := fun j hj => by
  have h1 : j ≠ 24 := fun e => hj (by rw [e]; decide)
  have h2 : j ≠ 25 := fun e => hj (by rw [e]; decide)
  show upd (upd (S.1 48) 25 a) 24 b j = _
  rw [upd_n h1, upd_n h2]
set_option maxHeartbeats 2000000 in
theorem m_sails (S : ST) (T : TD) (V : VS) (k : Nat) (hT : MT T S) (hto : tok T) (hM : MV T V S) (hV : vk T V) (hk : k < tnb T) (w : Nat) (hw : w < 24) (h1 : vis V k = 1) (hnm : vnm V k < 8) : EX me_R_sails 0 [.ref 48, .int (nI k), .int (nI w)] S (fun r u => r = none ∧ MV T (bea T w V k) u ∧ fr [48, 63, 64, 66] S u ∧ f48 [24, 25] S u ∧ u.2 = S.2) := by
  refine EX.of mok_R_sails (Nat.le_of_ble_eq_true rfl) ?_
  obtain ⟨n8, n9, hbt, het, hht, hlo⟩ := id hto
  obtain ⟨t1, t2, t3, t4, t5, t6, t7, t8, t9, t10, t11⟩ := id hT
  obtain ⟨m1, m2, m3, m4, m5, m6, m7⟩ := id hM
  obtain ⟨hh9, hv3, hb9, hfw, hfb⟩ := id hV
  have q2 := (hbt k hk).2.1
  have q3 := hh9 (8 * vnm V k + tbu T k) (by omega)
  have q4 := hb9 k hk
  have q5 := q4.2.2 (by omega)
  have q6 := (hbt k hk).1
  have q7 := brn_le (T := T) (V := V) (k := k) q5 q3
  have q8 := hh9 (8 * tbu T k + vnm V k) (by omega)
  refine run_ok 6 (c' := (11, [(0, .ref 48), (1, .int (nI k)), (2, .int (nI w))], [.int (nI k), .ref 65, .int (nI 8), .ref 63], S)) rfl ?_
  refine x_iaN (nI (vnm V k)) rfl rfl (by decide) (by omega) ((m3 k hk).trans (nmv_lt hnm)) ?_
  refine run_ok 1 (c' := (13, [(0, .ref 48), (1, .int (nI k)), (2, .int (nI w))], [.int ((nI 8) * (nI (vnm V k))), .ref 63], S)) rfl ?_
  refine x_top (v' := nI (8 * (vnm V k))) (pk_mul _ _) ?_
  refine run_ok 3 (c' := (18, [(0, .ref 48), (1, .int (nI k)), (2, .int (nI w))], [.int (nI k), .ref 54, .int (nI (8 * (vnm V k))), .ref 63], S)) rfl ?_
  refine x_iaN (nI (tbu T k)) rfl rfl (by decide) (by omega) (t3 k (by omega)) ?_
  refine run_ok 1 (c' := (20, [(0, .ref 48), (1, .int (nI k)), (2, .int (nI w))], [.int ((nI (8 * (vnm V k))) + (nI (tbu T k))), .ref 63], S)) rfl ?_
  refine x_top (v' := nI ((8 * (vnm V k)) + (tbu T k))) (nI_add _ _) ?_
  refine x_iaN (nI (vh V ((8 * (vnm V k)) + (tbu T k)))) rfl rfl (by decide) (by omega) (m1 ((8 * (vnm V k)) + (tbu T k)) (by omega)) ?_
  refine run_ok 5 (c' := (28, [(0, .ref 48), (1, .int (nI k)), (2, .int (nI w)), (3, .int (nI (vh V ((8 * (vnm V k)) + (tbu T k)))))], [.int (nI k), .ref 66, .int (nI k), .ref 66], S)) rfl ?_
  refine x_iaN (nI (vgr V k)) rfl rfl (by decide) (by omega) (m4 k (by omega)) ?_
  refine run_ok 3 (c' := (34, [(0, .ref 48), (1, .int (nI k)), (2, .int (nI w)), (3, .int (nI (vh V ((8 * (vnm V k)) + (tbu T k)))))], [.int (nI k), .ref 53, .int (nI (vgr V k)), .int (nI k), .ref 66], S)) rfl ?_
  refine x_iaN (nI (tso T k)) rfl rfl (by decide) (by omega) (t2 k (by omega)) ?_
  refine run_ok 1 (c' := (36, [(0, .ref 48), (1, .int (nI k)), (2, .int (nI w)), (3, .int (nI (vh V ((8 * (vnm V k)) + (tbu T k)))))], [.int (nI 1), .int (nI (tso T k)), .int (nI (vgr V k)), .int (nI k), .ref 66], S)) rfl ?_
  refine x_icmpN_ne 45 rfl rfl (by omega) (by omega) (fun h36 => ?_) (fun h36 => ?_)
  · refine run_ok 2 (c' := (47, [(0, .ref 48), (1, .int (nI k)), (2, .int (nI w)), (3, .int (nI (vh V ((8 * (vnm V k)) + (tbu T k)))))], [.int ((nI (vgr V k)) + (nI (vh V ((8 * (vnm V k)) + (tbu T k))))), .int (nI k), .ref 66], S)) rfl ?_
    refine x_top (v' := nI ((vgr V k) + (vh V ((8 * (vnm V k)) + (tbu T k))))) (nI_add _ _) ?_
    refine x_top (v' := nI (brn T V k)) (by unfold brn; rw [if_neg h36]) ?_
    refine x_isN rfl rfl (by decide) (by omega) ?_
    refine run_ok 3 (c' := (53, [(0, .ref 48), (1, .int (nI k)), (2, .int (nI w)), (3, .int (nI (vh V ((8 * (vnm V k)) + (tbu T k)))))], [.int (nI k), .ref 66], (pt S 66 k (nI (brn T V k))))) rfl ?_
    refine x_iaN (nI (brn T V k)) rfl rfl (by decide) (by omega) (upd_s _ _ _) ?_
    refine run_ok 4 (c' := (60, [(0, .ref 48), (1, .int (nI k)), (2, .int (nI w)), (3, .int (nI (vh V ((8 * (vnm V k)) + (tbu T k)))))], [.int (nI k), .ref 67, .int (nI 3), .int (nI (brn T V k))], (pt S 66 k (nI (brn T V k))))) rfl ?_
    refine x_iaN (nI (vho V k)) rfl rfl (by decide) (by omega) (m5 k (by omega)) ?_
    refine run_ok 1 (c' := (62, [(0, .ref 48), (1, .int (nI k)), (2, .int (nI w)), (3, .int (nI (vh V ((8 * (vnm V k)) + (tbu T k)))))], [.int ((nI 3) * (nI (vho V k))), .int (nI (brn T V k))], (pt S 66 k (nI (brn T V k))))) rfl ?_
    refine x_top (v' := nI (3 * (vho V k))) (pk_mul _ _) ?_
    refine x_icmpN_gt 74 rfl rfl (by omega) (by omega) (fun h62 => ?_) (fun h62 => ?_)
    · refine run_ok 4 (c' := (81, [(0, .ref 48), (1, .int (nI k)), (2, .int (nI w)), (3, .int (nI (vh V ((8 * (vnm V k)) + (tbu T k)))))], [.int (nI k), .ref 54, .int (nI 8)], (pt S 66 k (nI (brn T V k))))) rfl ?_
      refine x_iaN (nI (tbu T k)) rfl rfl (by decide) (by omega) (t3 k (by omega)) ?_
      refine run_ok 1 (c' := (83, [(0, .ref 48), (1, .int (nI k)), (2, .int (nI w)), (3, .int (nI (vh V ((8 * (vnm V k)) + (tbu T k)))))], [.int ((nI 8) * (nI (tbu T k)))], (pt S 66 k (nI (brn T V k))))) rfl ?_
      refine x_top (v' := nI (8 * (tbu T k))) (pk_mul _ _) ?_
      refine run_ok 3 (c' := (88, [(0, .ref 48), (1, .int (nI k)), (2, .int (nI w)), (3, .int (nI (vh V ((8 * (vnm V k)) + (tbu T k)))))], [.int (nI k), .ref 65, .int (nI (8 * (tbu T k)))], (pt S 66 k (nI (brn T V k))))) rfl ?_
      refine x_iaN (nI (vnm V k)) rfl rfl (by decide) (by omega) ((m3 k hk).trans (nmv_lt hnm)) ?_
      refine run_ok 1 (c' := (90, [(0, .ref 48), (1, .int (nI k)), (2, .int (nI w)), (3, .int (nI (vh V ((8 * (vnm V k)) + (tbu T k)))))], [.int ((nI (8 * (tbu T k))) + (nI (vnm V k)))], (pt S 66 k (nI (brn T V k))))) rfl ?_
      refine x_top (v' := nI ((8 * (tbu T k)) + (vnm V k))) (nI_add _ _) ?_
      refine run_ok 5 (c' := (98, [(0, .ref 48), (1, .int (nI k)), (2, .int (nI w)), (3, .int (nI (vh V ((8 * (vnm V k)) + (tbu T k))))), (4, .int (nI ((8 * (tbu T k)) + (vnm V k))))], [.int (nI 2), .int (nI k), .ref 64], (pt S 66 k (nI (brn T V k))))) rfl ?_
      refine x_isN rfl rfl (by decide) (by omega) ?_
      refine run_ok 4 (c' := (106, [(0, .ref 48), (1, .int (nI k)), (2, .int (nI w)), (3, .int (nI (vh V ((8 * (vnm V k)) + (tbu T k))))), (4, .int (nI ((8 * (tbu T k)) + (vnm V k))))], [.int (nI ((8 * (tbu T k)) + (vnm V k))), .ref 63, .int (nI ((8 * (tbu T k)) + (vnm V k))), .ref 63], (pt (pt S 66 k (nI (brn T V k))) 64 k (nI 2)))) rfl ?_
      refine x_iaN (nI (vh V ((8 * (tbu T k)) + (vnm V k)))) rfl rfl (by decide) (by omega) (m1 ((8 * (tbu T k)) + (vnm V k)) (by omega)) ?_
      refine run_ok 3 (c' := (113, [(0, .ref 48), (1, .int (nI k)), (2, .int (nI w)), (3, .int (nI (vh V ((8 * (vnm V k)) + (tbu T k))))), (4, .int (nI ((8 * (tbu T k)) + (vnm V k))))], [.int (nI ((8 * (tbu T k)) + (vnm V k))), .ref 63, .int (nI (vh V ((8 * (tbu T k)) + (vnm V k)))), .int (nI ((8 * (tbu T k)) + (vnm V k))), .ref 63], (pt (pt S 66 k (nI (brn T V k))) 64 k (nI 2)))) rfl ?_
      refine x_iaN (nI (vh V ((8 * (tbu T k)) + (vnm V k)))) rfl rfl (by decide) (by omega) (m1 ((8 * (tbu T k)) + (vnm V k)) (by omega)) ?_
      refine run_ok 1 (c' := (116, [(0, .ref 48), (1, .int (nI k)), (2, .int (nI w)), (3, .int (nI (vh V ((8 * (vnm V k)) + (tbu T k))))), (4, .int (nI ((8 * (tbu T k)) + (vnm V k))))], [.int (nI 9), .int (nI (vh V ((8 * (tbu T k)) + (vnm V k)))), .int (nI (vh V ((8 * (tbu T k)) + (vnm V k)))), .int (nI ((8 * (tbu T k)) + (vnm V k))), .ref 63], (pt (pt S 66 k (nI (brn T V k))) 64 k (nI 2)))) rfl ?_
      refine x_icmpN_ge 123 rfl rfl (by omega) (by omega) (fun h116 => ?_) (fun h116 => ?_)
      · refine run_ok 2 (c' := (125, [(0, .ref 48), (1, .int (nI k)), (2, .int (nI w)), (3, .int (nI (vh V ((8 * (vnm V k)) + (tbu T k))))), (4, .int (nI ((8 * (tbu T k)) + (vnm V k))))], [.int ((nI (vh V ((8 * (tbu T k)) + (vnm V k)))) + (nI 0)), .int (nI ((8 * (tbu T k)) + (vnm V k))), .ref 63], (pt (pt S 66 k (nI (brn T V k))) 64 k (nI 2)))) rfl ?_
        refine x_top (v' := nI ((vh V ((8 * (tbu T k)) + (vnm V k))) + 0)) (nI_add _ _) ?_
        refine x_isN rfl rfl (by decide) (by omega) ?_
        refine run_ok 3 (c' := (131, [(0, .ref 48), (1, .int (nI k)), (2, .int (nI w)), (3, .int (nI (vh V ((8 * (vnm V k)) + (tbu T k))))), (4, .int (nI ((8 * (tbu T k)) + (vnm V k))))], [.int (S.1 48 24), .ref 48], (pt (pt (pt S 66 k (nI (brn T V k))) 64 k (nI 2)) 63 ((8 * (tbu T k)) + (vnm V k)) (nI ((vh V ((8 * (tbu T k)) + (vnm V k))) + 0))))) rfl ?_
        refine x_top (v' := fwv (vfw V)) m6 ?_
        refine run_ok 1 (c' := (132, [(0, .ref 48), (1, .int (nI k)), (2, .int (nI w)), (3, .int (nI (vh V ((8 * (vnm V k)) + (tbu T k))))), (4, .int (nI ((8 * (tbu T k)) + (vnm V k))))], [.int (-1), .int (fwv (vfw V)), .ref 48], (pt (pt (pt S 66 k (nI (brn T V k))) 64 k (nI 2)) 63 ((8 * (tbu T k)) + (vnm V k)) (nI ((vh V ((8 * (tbu T k)) + (vnm V k))) + 0))))) rfl ?_
        refine x_icmp_ne 139 rfl rfl (fun h132 => ?_) (fun h132 => ?_)
        · refine run_ok 2 (c' := (143, [(0, .ref 48), (1, .int (nI k)), (2, .int (nI w)), (3, .int (nI (vh V ((8 * (vnm V k)) + (tbu T k))))), (4, .int (nI ((8 * (tbu T k)) + (vnm V k))))], [.int (S.1 48 25), .ref 48], (pt (pt (pt S 66 k (nI (brn T V k))) 64 k (nI 2)) 63 ((8 * (tbu T k)) + (vnm V k)) (nI ((vh V ((8 * (tbu T k)) + (vnm V k))) + 0))))) rfl ?_
          refine x_top (v' := nmv (vfb V)) m7 ?_
          refine run_ok 1 (c' := (146, [(0, .ref 48), (1, .int (nI k)), (2, .int (nI w)), (3, .int (nI (vh V ((8 * (vnm V k)) + (tbu T k))))), (4, .int (nI ((8 * (tbu T k)) + (vnm V k))))], [], (pt (pt (pt (pt S 66 k (nI (brn T V k))) 64 k (nI 2)) 63 ((8 * (tbu T k)) + (vnm V k)) (nI ((vh V ((8 * (tbu T k)) + (vnm V k))) + 0))) 48 25 (nmv (vfb V))))) rfl ?_
          refine run_ok 3 (c' := (151, [(0, .ref 48), (1, .int (nI k)), (2, .int (nI w)), (3, .int (nI (vh V ((8 * (vnm V k)) + (tbu T k))))), (4, .int (nI ((8 * (tbu T k)) + (vnm V k))))], [.int (S.1 48 24), .ref 48], (pt (pt (pt (pt S 66 k (nI (brn T V k))) 64 k (nI 2)) 63 ((8 * (tbu T k)) + (vnm V k)) (nI ((vh V ((8 * (tbu T k)) + (vnm V k))) + 0))) 48 25 (nmv (vfb V))))) rfl ?_
          refine x_top (v' := fwv (vfw V)) m6 ?_
          refine run_ok 1 (c' := (152, [(0, .ref 48), (1, .int (nI k)), (2, .int (nI w)), (3, .int (nI (vh V ((8 * (vnm V k)) + (tbu T k))))), (4, .int (nI ((8 * (tbu T k)) + (vnm V k))))], [.int (-1), .int (fwv (vfw V)), .ref 48], (pt (pt (pt (pt S 66 k (nI (brn T V k))) 64 k (nI 2)) 63 ((8 * (tbu T k)) + (vnm V k)) (nI ((vh V ((8 * (tbu T k)) + (vnm V k))) + 0))) 48 25 (nmv (vfb V))))) rfl ?_
          refine x_icmp_ne 159 rfl rfl (fun h152 => ?_) (fun hn => absurd hn h132)
          refine run_ok 2 (c' := (163, [(0, .ref 48), (1, .int (nI k)), (2, .int (nI w)), (3, .int (nI (vh V ((8 * (vnm V k)) + (tbu T k))))), (4, .int (nI ((8 * (tbu T k)) + (vnm V k))))], [.int (S.1 48 24), .ref 48], (pt (pt (pt (pt S 66 k (nI (brn T V k))) 64 k (nI 2)) 63 ((8 * (tbu T k)) + (vnm V k)) (nI ((vh V ((8 * (tbu T k)) + (vnm V k))) + 0))) 48 25 (nmv (vfb V))))) rfl ?_
          refine x_top (v' := fwv (vfw V)) m6 ?_
          refine run_ok 1 (c' := (166, [(0, .ref 48), (1, .int (nI k)), (2, .int (nI w)), (3, .int (nI (vh V ((8 * (vnm V k)) + (tbu T k))))), (4, .int (nI ((8 * (tbu T k)) + (vnm V k))))], [], (pt (pt (pt (pt (pt S 66 k (nI (brn T V k))) 64 k (nI 2)) 63 ((8 * (tbu T k)) + (vnm V k)) (nI ((vh V ((8 * (tbu T k)) + (vnm V k))) + 0))) 48 25 (nmv (vfb V))) 48 24 (fwv (vfw V))))) rfl ?_
          refine x_ret (r := none) rfl rfl trivial ?_ rfl
          have hb := bea_s (T := T) (w := w) (V := V) (k := k) (by first | exact Or.inl h62 | exact Or.inr h71)
          refine ⟨rfl, ?_, ((((fr.rf.pt (by decide)).pt (by decide)).pt (by decide)).pt (by decide)).pt (by decide), f48.two, rfl⟩
          rw [hb]
          refine ⟨?_, (m2.put : rh (pt S 64 k (nI 2)) 64 (tnb T) _), m3, (m4.put : rh (pt S 66 k (nI (brn T V k))) 66 (tnb T) _), m5, ?_, ?_⟩
          · show rh _ 63 64 (upn (vh V) (8 * tbu T k + vnm V k) (if vh V (8 * tbu T k + vnm V k) < 9 then vh V (8 * tbu T k + vnm V k) + 1 else vh V (8 * tbu T k + vnm V k)))
            rw [show (if vh V (8 * tbu T k + vnm V k) < 9 then vh V (8 * tbu T k + vnm V k) + 1 else vh V (8 * tbu T k + vnm V k)) = vh V (8 * tbu T k + vnm V k) from if_neg (by omega)]
            exact (m1.put : rh (pt S 63 (8 * tbu T k + vnm V k) (nI (vh V (8 * tbu T k + vnm V k)))) 63 64 _)
          · show fwv (vfw V) = fwv (if vfw V = 24 then w else vfw V)
            rw [if_neg (fun z => h132 ((fwv_n1 hfw).mpr z))]
          · show nmv (vfb V) = nmv (if vfw V = 24 then k else vfb V)
            rw [if_neg (fun z => h132 ((fwv_n1 hfw).mpr z))]
        · refine run_ok 3 (c' := (146, [(0, .ref 48), (1, .int (nI k)), (2, .int (nI w)), (3, .int (nI (vh V ((8 * (vnm V k)) + (tbu T k))))), (4, .int (nI ((8 * (tbu T k)) + (vnm V k))))], [], (pt (pt (pt (pt S 66 k (nI (brn T V k))) 64 k (nI 2)) 63 ((8 * (tbu T k)) + (vnm V k)) (nI ((vh V ((8 * (tbu T k)) + (vnm V k))) + 0))) 48 25 (nI k)))) rfl ?_
          refine run_ok 3 (c' := (151, [(0, .ref 48), (1, .int (nI k)), (2, .int (nI w)), (3, .int (nI (vh V ((8 * (vnm V k)) + (tbu T k))))), (4, .int (nI ((8 * (tbu T k)) + (vnm V k))))], [.int (S.1 48 24), .ref 48], (pt (pt (pt (pt S 66 k (nI (brn T V k))) 64 k (nI 2)) 63 ((8 * (tbu T k)) + (vnm V k)) (nI ((vh V ((8 * (tbu T k)) + (vnm V k))) + 0))) 48 25 (nI k)))) rfl ?_
          refine x_top (v' := fwv (vfw V)) m6 ?_
          refine run_ok 1 (c' := (152, [(0, .ref 48), (1, .int (nI k)), (2, .int (nI w)), (3, .int (nI (vh V ((8 * (vnm V k)) + (tbu T k))))), (4, .int (nI ((8 * (tbu T k)) + (vnm V k))))], [.int (-1), .int (fwv (vfw V)), .ref 48], (pt (pt (pt (pt S 66 k (nI (brn T V k))) 64 k (nI 2)) 63 ((8 * (tbu T k)) + (vnm V k)) (nI ((vh V ((8 * (tbu T k)) + (vnm V k))) + 0))) 48 25 (nI k)))) rfl ?_
          refine x_icmp_ne 159 rfl rfl (fun hn => absurd h132 hn) (fun h152 => ?_)
          refine run_ok 3 (c' := (166, [(0, .ref 48), (1, .int (nI k)), (2, .int (nI w)), (3, .int (nI (vh V ((8 * (vnm V k)) + (tbu T k))))), (4, .int (nI ((8 * (tbu T k)) + (vnm V k))))], [], (pt (pt (pt (pt (pt S 66 k (nI (brn T V k))) 64 k (nI 2)) 63 ((8 * (tbu T k)) + (vnm V k)) (nI ((vh V ((8 * (tbu T k)) + (vnm V k))) + 0))) 48 25 (nI k)) 48 24 (nI w)))) rfl ?_
          refine x_ret (r := none) rfl rfl trivial ?_ rfl
          have hb := bea_s (T := T) (w := w) (V := V) (k := k) (by first | exact Or.inl h62 | exact Or.inr h71)
          refine ⟨rfl, ?_, ((((fr.rf.pt (by decide)).pt (by decide)).pt (by decide)).pt (by decide)).pt (by decide), f48.two, rfl⟩
          rw [hb]
          refine ⟨?_, (m2.put : rh (pt S 64 k (nI 2)) 64 (tnb T) _), m3, (m4.put : rh (pt S 66 k (nI (brn T V k))) 66 (tnb T) _), m5, ?_, ?_⟩
          · show rh _ 63 64 (upn (vh V) (8 * tbu T k + vnm V k) (if vh V (8 * tbu T k + vnm V k) < 9 then vh V (8 * tbu T k + vnm V k) + 1 else vh V (8 * tbu T k + vnm V k)))
            rw [show (if vh V (8 * tbu T k + vnm V k) < 9 then vh V (8 * tbu T k + vnm V k) + 1 else vh V (8 * tbu T k + vnm V k)) = vh V (8 * tbu T k + vnm V k) from if_neg (by omega)]
            exact (m1.put : rh (pt S 63 (8 * tbu T k + vnm V k) (nI (vh V (8 * tbu T k + vnm V k)))) 63 64 _)
          · show nI w = fwv (if vfw V = 24 then w else vfw V)
            rw [if_pos ((fwv_n1 hfw).mp h132), fwv_lt hw]
          · show nI k = nmv (if vfw V = 24 then k else vfb V)
            rw [if_pos ((fwv_n1 hfw).mp h132), nmv_lt (by omega)]
      · refine run_ok 3 (c' := (125, [(0, .ref 48), (1, .int (nI k)), (2, .int (nI w)), (3, .int (nI (vh V ((8 * (vnm V k)) + (tbu T k))))), (4, .int (nI ((8 * (tbu T k)) + (vnm V k))))], [.int ((nI (vh V ((8 * (tbu T k)) + (vnm V k)))) + (nI 1)), .int (nI ((8 * (tbu T k)) + (vnm V k))), .ref 63], (pt (pt S 66 k (nI (brn T V k))) 64 k (nI 2)))) rfl ?_
        refine x_top (v' := nI ((vh V ((8 * (tbu T k)) + (vnm V k))) + 1)) (nI_add _ _) ?_
        refine x_isN rfl rfl (by decide) (by omega) ?_
        refine run_ok 3 (c' := (131, [(0, .ref 48), (1, .int (nI k)), (2, .int (nI w)), (3, .int (nI (vh V ((8 * (vnm V k)) + (tbu T k))))), (4, .int (nI ((8 * (tbu T k)) + (vnm V k))))], [.int (S.1 48 24), .ref 48], (pt (pt (pt S 66 k (nI (brn T V k))) 64 k (nI 2)) 63 ((8 * (tbu T k)) + (vnm V k)) (nI ((vh V ((8 * (tbu T k)) + (vnm V k))) + 1))))) rfl ?_
        refine x_top (v' := fwv (vfw V)) m6 ?_
        refine run_ok 1 (c' := (132, [(0, .ref 48), (1, .int (nI k)), (2, .int (nI w)), (3, .int (nI (vh V ((8 * (vnm V k)) + (tbu T k))))), (4, .int (nI ((8 * (tbu T k)) + (vnm V k))))], [.int (-1), .int (fwv (vfw V)), .ref 48], (pt (pt (pt S 66 k (nI (brn T V k))) 64 k (nI 2)) 63 ((8 * (tbu T k)) + (vnm V k)) (nI ((vh V ((8 * (tbu T k)) + (vnm V k))) + 1))))) rfl ?_
        refine x_icmp_ne 139 rfl rfl (fun h132 => ?_) (fun h132 => ?_)
        · refine run_ok 2 (c' := (143, [(0, .ref 48), (1, .int (nI k)), (2, .int (nI w)), (3, .int (nI (vh V ((8 * (vnm V k)) + (tbu T k))))), (4, .int (nI ((8 * (tbu T k)) + (vnm V k))))], [.int (S.1 48 25), .ref 48], (pt (pt (pt S 66 k (nI (brn T V k))) 64 k (nI 2)) 63 ((8 * (tbu T k)) + (vnm V k)) (nI ((vh V ((8 * (tbu T k)) + (vnm V k))) + 1))))) rfl ?_
          refine x_top (v' := nmv (vfb V)) m7 ?_
          refine run_ok 1 (c' := (146, [(0, .ref 48), (1, .int (nI k)), (2, .int (nI w)), (3, .int (nI (vh V ((8 * (vnm V k)) + (tbu T k))))), (4, .int (nI ((8 * (tbu T k)) + (vnm V k))))], [], (pt (pt (pt (pt S 66 k (nI (brn T V k))) 64 k (nI 2)) 63 ((8 * (tbu T k)) + (vnm V k)) (nI ((vh V ((8 * (tbu T k)) + (vnm V k))) + 1))) 48 25 (nmv (vfb V))))) rfl ?_
          refine run_ok 3 (c' := (151, [(0, .ref 48), (1, .int (nI k)), (2, .int (nI w)), (3, .int (nI (vh V ((8 * (vnm V k)) + (tbu T k))))), (4, .int (nI ((8 * (tbu T k)) + (vnm V k))))], [.int (S.1 48 24), .ref 48], (pt (pt (pt (pt S 66 k (nI (brn T V k))) 64 k (nI 2)) 63 ((8 * (tbu T k)) + (vnm V k)) (nI ((vh V ((8 * (tbu T k)) + (vnm V k))) + 1))) 48 25 (nmv (vfb V))))) rfl ?_
          refine x_top (v' := fwv (vfw V)) m6 ?_
          refine run_ok 1 (c' := (152, [(0, .ref 48), (1, .int (nI k)), (2, .int (nI w)), (3, .int (nI (vh V ((8 * (vnm V k)) + (tbu T k))))), (4, .int (nI ((8 * (tbu T k)) + (vnm V k))))], [.int (-1), .int (fwv (vfw V)), .ref 48], (pt (pt (pt (pt S 66 k (nI (brn T V k))) 64 k (nI 2)) 63 ((8 * (tbu T k)) + (vnm V k)) (nI ((vh V ((8 * (tbu T k)) + (vnm V k))) + 1))) 48 25 (nmv (vfb V))))) rfl ?_
          refine x_icmp_ne 159 rfl rfl (fun h152 => ?_) (fun hn => absurd hn h132)
          refine run_ok 2 (c' := (163, [(0, .ref 48), (1, .int (nI k)), (2, .int (nI w)), (3, .int (nI (vh V ((8 * (vnm V k)) + (tbu T k))))), (4, .int (nI ((8 * (tbu T k)) + (vnm V k))))], [.int (S.1 48 24), .ref 48], (pt (pt (pt (pt S 66 k (nI (brn T V k))) 64 k (nI 2)) 63 ((8 * (tbu T k)) + (vnm V k)) (nI ((vh V ((8 * (tbu T k)) + (vnm V k))) + 1))) 48 25 (nmv (vfb V))))) rfl ?_
          refine x_top (v' := fwv (vfw V)) m6 ?_
          refine run_ok 1 (c' := (166, [(0, .ref 48), (1, .int (nI k)), (2, .int (nI w)), (3, .int (nI (vh V ((8 * (vnm V k)) + (tbu T k))))), (4, .int (nI ((8 * (tbu T k)) + (vnm V k))))], [], (pt (pt (pt (pt (pt S 66 k (nI (brn T V k))) 64 k (nI 2)) 63 ((8 * (tbu T k)) + (vnm V k)) (nI ((vh V ((8 * (tbu T k)) + (vnm V k))) + 1))) 48 25 (nmv (vfb V))) 48 24 (fwv (vfw V))))) rfl ?_
          refine x_ret (r := none) rfl rfl trivial ?_ rfl
          have hb := bea_s (T := T) (w := w) (V := V) (k := k) (by first | exact Or.inl h62 | exact Or.inr h71)
          refine ⟨rfl, ?_, ((((fr.rf.pt (by decide)).pt (by decide)).pt (by decide)).pt (by decide)).pt (by decide), f48.two, rfl⟩
          rw [hb]
          refine ⟨?_, (m2.put : rh (pt S 64 k (nI 2)) 64 (tnb T) _), m3, (m4.put : rh (pt S 66 k (nI (brn T V k))) 66 (tnb T) _), m5, ?_, ?_⟩
          · show rh _ 63 64 (upn (vh V) (8 * tbu T k + vnm V k) (if vh V (8 * tbu T k + vnm V k) < 9 then vh V (8 * tbu T k + vnm V k) + 1 else vh V (8 * tbu T k + vnm V k)))
            rw [show (if vh V (8 * tbu T k + vnm V k) < 9 then vh V (8 * tbu T k + vnm V k) + 1 else vh V (8 * tbu T k + vnm V k)) = vh V (8 * tbu T k + vnm V k) + 1 from if_pos (by omega)]
            exact (m1.put : rh (pt S 63 (8 * tbu T k + vnm V k) (nI (vh V (8 * tbu T k + vnm V k) + 1))) 63 64 _)
          · show fwv (vfw V) = fwv (if vfw V = 24 then w else vfw V)
            rw [if_neg (fun z => h132 ((fwv_n1 hfw).mpr z))]
          · show nmv (vfb V) = nmv (if vfw V = 24 then k else vfb V)
            rw [if_neg (fun z => h132 ((fwv_n1 hfw).mpr z))]
        · refine run_ok 3 (c' := (146, [(0, .ref 48), (1, .int (nI k)), (2, .int (nI w)), (3, .int (nI (vh V ((8 * (vnm V k)) + (tbu T k))))), (4, .int (nI ((8 * (tbu T k)) + (vnm V k))))], [], (pt (pt (pt (pt S 66 k (nI (brn T V k))) 64 k (nI 2)) 63 ((8 * (tbu T k)) + (vnm V k)) (nI ((vh V ((8 * (tbu T k)) + (vnm V k))) + 1))) 48 25 (nI k)))) rfl ?_
          refine run_ok 3 (c' := (151, [(0, .ref 48), (1, .int (nI k)), (2, .int (nI w)), (3, .int (nI (vh V ((8 * (vnm V k)) + (tbu T k))))), (4, .int (nI ((8 * (tbu T k)) + (vnm V k))))], [.int (S.1 48 24), .ref 48], (pt (pt (pt (pt S 66 k (nI (brn T V k))) 64 k (nI 2)) 63 ((8 * (tbu T k)) + (vnm V k)) (nI ((vh V ((8 * (tbu T k)) + (vnm V k))) + 1))) 48 25 (nI k)))) rfl ?_
          refine x_top (v' := fwv (vfw V)) m6 ?_
          refine run_ok 1 (c' := (152, [(0, .ref 48), (1, .int (nI k)), (2, .int (nI w)), (3, .int (nI (vh V ((8 * (vnm V k)) + (tbu T k))))), (4, .int (nI ((8 * (tbu T k)) + (vnm V k))))], [.int (-1), .int (fwv (vfw V)), .ref 48], (pt (pt (pt (pt S 66 k (nI (brn T V k))) 64 k (nI 2)) 63 ((8 * (tbu T k)) + (vnm V k)) (nI ((vh V ((8 * (tbu T k)) + (vnm V k))) + 1))) 48 25 (nI k)))) rfl ?_
          refine x_icmp_ne 159 rfl rfl (fun hn => absurd h132 hn) (fun h152 => ?_)
          refine run_ok 3 (c' := (166, [(0, .ref 48), (1, .int (nI k)), (2, .int (nI w)), (3, .int (nI (vh V ((8 * (vnm V k)) + (tbu T k))))), (4, .int (nI ((8 * (tbu T k)) + (vnm V k))))], [], (pt (pt (pt (pt (pt S 66 k (nI (brn T V k))) 64 k (nI 2)) 63 ((8 * (tbu T k)) + (vnm V k)) (nI ((vh V ((8 * (tbu T k)) + (vnm V k))) + 1))) 48 25 (nI k)) 48 24 (nI w)))) rfl ?_
          refine x_ret (r := none) rfl rfl trivial ?_ rfl
          have hb := bea_s (T := T) (w := w) (V := V) (k := k) (by first | exact Or.inl h62 | exact Or.inr h71)
          refine ⟨rfl, ?_, ((((fr.rf.pt (by decide)).pt (by decide)).pt (by decide)).pt (by decide)).pt (by decide), f48.two, rfl⟩
          rw [hb]
          refine ⟨?_, (m2.put : rh (pt S 64 k (nI 2)) 64 (tnb T) _), m3, (m4.put : rh (pt S 66 k (nI (brn T V k))) 66 (tnb T) _), m5, ?_, ?_⟩
          · show rh _ 63 64 (upn (vh V) (8 * tbu T k + vnm V k) (if vh V (8 * tbu T k + vnm V k) < 9 then vh V (8 * tbu T k + vnm V k) + 1 else vh V (8 * tbu T k + vnm V k)))
            rw [show (if vh V (8 * tbu T k + vnm V k) < 9 then vh V (8 * tbu T k + vnm V k) + 1 else vh V (8 * tbu T k + vnm V k)) = vh V (8 * tbu T k + vnm V k) + 1 from if_pos (by omega)]
            exact (m1.put : rh (pt S 63 (8 * tbu T k + vnm V k) (nI (vh V (8 * tbu T k + vnm V k) + 1))) 63 64 _)
          · show nI w = fwv (if vfw V = 24 then w else vfw V)
            rw [if_pos ((fwv_n1 hfw).mp h132), fwv_lt hw]
          · show nI k = nmv (if vfw V = 24 then k else vfb V)
            rw [if_pos ((fwv_n1 hfw).mp h132), nmv_lt (by omega)]
    · refine run_ok 3 (c' := (70, [(0, .ref 48), (1, .int (nI k)), (2, .int (nI w)), (3, .int (nI (vh V ((8 * (vnm V k)) + (tbu T k)))))], [.int (nI k), .ref 67], (pt S 66 k (nI (brn T V k))))) rfl ?_
      refine x_iaN (nI (vho V k)) rfl rfl (by decide) (by omega) (m5 k (by omega)) ?_
      refine x_ifN_ne 166 rfl rfl (by omega) (fun h71 => ?_) (fun h71 => ?_)
      · refine x_ret (r := none) rfl rfl trivial ?_ rfl
        have hb := bea_n (T := T) (w := w) (V := V) (k := k) (by omega)
        refine ⟨rfl, ?_, fr.rf.pt (by decide), f48.rf, rfl⟩
        rw [hb]
        exact ⟨m1, m2, m3, m4.put, m5, m6, m7⟩
      · refine run_ok 4 (c' := (81, [(0, .ref 48), (1, .int (nI k)), (2, .int (nI w)), (3, .int (nI (vh V ((8 * (vnm V k)) + (tbu T k)))))], [.int (nI k), .ref 54, .int (nI 8)], (pt S 66 k (nI (brn T V k))))) rfl ?_
        refine x_iaN (nI (tbu T k)) rfl rfl (by decide) (by omega) (t3 k (by omega)) ?_
        refine run_ok 1 (c' := (83, [(0, .ref 48), (1, .int (nI k)), (2, .int (nI w)), (3, .int (nI (vh V ((8 * (vnm V k)) + (tbu T k)))))], [.int ((nI 8) * (nI (tbu T k)))], (pt S 66 k (nI (brn T V k))))) rfl ?_
        refine x_top (v' := nI (8 * (tbu T k))) (pk_mul _ _) ?_
        refine run_ok 3 (c' := (88, [(0, .ref 48), (1, .int (nI k)), (2, .int (nI w)), (3, .int (nI (vh V ((8 * (vnm V k)) + (tbu T k)))))], [.int (nI k), .ref 65, .int (nI (8 * (tbu T k)))], (pt S 66 k (nI (brn T V k))))) rfl ?_
        refine x_iaN (nI (vnm V k)) rfl rfl (by decide) (by omega) ((m3 k hk).trans (nmv_lt hnm)) ?_
        refine run_ok 1 (c' := (90, [(0, .ref 48), (1, .int (nI k)), (2, .int (nI w)), (3, .int (nI (vh V ((8 * (vnm V k)) + (tbu T k)))))], [.int ((nI (8 * (tbu T k))) + (nI (vnm V k)))], (pt S 66 k (nI (brn T V k))))) rfl ?_
        refine x_top (v' := nI ((8 * (tbu T k)) + (vnm V k))) (nI_add _ _) ?_
        refine run_ok 5 (c' := (98, [(0, .ref 48), (1, .int (nI k)), (2, .int (nI w)), (3, .int (nI (vh V ((8 * (vnm V k)) + (tbu T k))))), (4, .int (nI ((8 * (tbu T k)) + (vnm V k))))], [.int (nI 2), .int (nI k), .ref 64], (pt S 66 k (nI (brn T V k))))) rfl ?_
        refine x_isN rfl rfl (by decide) (by omega) ?_
        refine run_ok 4 (c' := (106, [(0, .ref 48), (1, .int (nI k)), (2, .int (nI w)), (3, .int (nI (vh V ((8 * (vnm V k)) + (tbu T k))))), (4, .int (nI ((8 * (tbu T k)) + (vnm V k))))], [.int (nI ((8 * (tbu T k)) + (vnm V k))), .ref 63, .int (nI ((8 * (tbu T k)) + (vnm V k))), .ref 63], (pt (pt S 66 k (nI (brn T V k))) 64 k (nI 2)))) rfl ?_
        refine x_iaN (nI (vh V ((8 * (tbu T k)) + (vnm V k)))) rfl rfl (by decide) (by omega) (m1 ((8 * (tbu T k)) + (vnm V k)) (by omega)) ?_
        refine run_ok 3 (c' := (113, [(0, .ref 48), (1, .int (nI k)), (2, .int (nI w)), (3, .int (nI (vh V ((8 * (vnm V k)) + (tbu T k))))), (4, .int (nI ((8 * (tbu T k)) + (vnm V k))))], [.int (nI ((8 * (tbu T k)) + (vnm V k))), .ref 63, .int (nI (vh V ((8 * (tbu T k)) + (vnm V k)))), .int (nI ((8 * (tbu T k)) + (vnm V k))), .ref 63], (pt (pt S 66 k (nI (brn T V k))) 64 k (nI 2)))) rfl ?_
        refine x_iaN (nI (vh V ((8 * (tbu T k)) + (vnm V k)))) rfl rfl (by decide) (by omega) (m1 ((8 * (tbu T k)) + (vnm V k)) (by omega)) ?_
        refine run_ok 1 (c' := (116, [(0, .ref 48), (1, .int (nI k)), (2, .int (nI w)), (3, .int (nI (vh V ((8 * (vnm V k)) + (tbu T k))))), (4, .int (nI ((8 * (tbu T k)) + (vnm V k))))], [.int (nI 9), .int (nI (vh V ((8 * (tbu T k)) + (vnm V k)))), .int (nI (vh V ((8 * (tbu T k)) + (vnm V k)))), .int (nI ((8 * (tbu T k)) + (vnm V k))), .ref 63], (pt (pt S 66 k (nI (brn T V k))) 64 k (nI 2)))) rfl ?_
        refine x_icmpN_ge 123 rfl rfl (by omega) (by omega) (fun h116 => ?_) (fun h116 => ?_)
        · refine run_ok 2 (c' := (125, [(0, .ref 48), (1, .int (nI k)), (2, .int (nI w)), (3, .int (nI (vh V ((8 * (vnm V k)) + (tbu T k))))), (4, .int (nI ((8 * (tbu T k)) + (vnm V k))))], [.int ((nI (vh V ((8 * (tbu T k)) + (vnm V k)))) + (nI 0)), .int (nI ((8 * (tbu T k)) + (vnm V k))), .ref 63], (pt (pt S 66 k (nI (brn T V k))) 64 k (nI 2)))) rfl ?_
          refine x_top (v' := nI ((vh V ((8 * (tbu T k)) + (vnm V k))) + 0)) (nI_add _ _) ?_
          refine x_isN rfl rfl (by decide) (by omega) ?_
          refine run_ok 3 (c' := (131, [(0, .ref 48), (1, .int (nI k)), (2, .int (nI w)), (3, .int (nI (vh V ((8 * (vnm V k)) + (tbu T k))))), (4, .int (nI ((8 * (tbu T k)) + (vnm V k))))], [.int (S.1 48 24), .ref 48], (pt (pt (pt S 66 k (nI (brn T V k))) 64 k (nI 2)) 63 ((8 * (tbu T k)) + (vnm V k)) (nI ((vh V ((8 * (tbu T k)) + (vnm V k))) + 0))))) rfl ?_
          refine x_top (v' := fwv (vfw V)) m6 ?_
          refine run_ok 1 (c' := (132, [(0, .ref 48), (1, .int (nI k)), (2, .int (nI w)), (3, .int (nI (vh V ((8 * (vnm V k)) + (tbu T k))))), (4, .int (nI ((8 * (tbu T k)) + (vnm V k))))], [.int (-1), .int (fwv (vfw V)), .ref 48], (pt (pt (pt S 66 k (nI (brn T V k))) 64 k (nI 2)) 63 ((8 * (tbu T k)) + (vnm V k)) (nI ((vh V ((8 * (tbu T k)) + (vnm V k))) + 0))))) rfl ?_
          refine x_icmp_ne 139 rfl rfl (fun h132 => ?_) (fun h132 => ?_)
          · refine run_ok 2 (c' := (143, [(0, .ref 48), (1, .int (nI k)), (2, .int (nI w)), (3, .int (nI (vh V ((8 * (vnm V k)) + (tbu T k))))), (4, .int (nI ((8 * (tbu T k)) + (vnm V k))))], [.int (S.1 48 25), .ref 48], (pt (pt (pt S 66 k (nI (brn T V k))) 64 k (nI 2)) 63 ((8 * (tbu T k)) + (vnm V k)) (nI ((vh V ((8 * (tbu T k)) + (vnm V k))) + 0))))) rfl ?_
            refine x_top (v' := nmv (vfb V)) m7 ?_
            refine run_ok 1 (c' := (146, [(0, .ref 48), (1, .int (nI k)), (2, .int (nI w)), (3, .int (nI (vh V ((8 * (vnm V k)) + (tbu T k))))), (4, .int (nI ((8 * (tbu T k)) + (vnm V k))))], [], (pt (pt (pt (pt S 66 k (nI (brn T V k))) 64 k (nI 2)) 63 ((8 * (tbu T k)) + (vnm V k)) (nI ((vh V ((8 * (tbu T k)) + (vnm V k))) + 0))) 48 25 (nmv (vfb V))))) rfl ?_
            refine run_ok 3 (c' := (151, [(0, .ref 48), (1, .int (nI k)), (2, .int (nI w)), (3, .int (nI (vh V ((8 * (vnm V k)) + (tbu T k))))), (4, .int (nI ((8 * (tbu T k)) + (vnm V k))))], [.int (S.1 48 24), .ref 48], (pt (pt (pt (pt S 66 k (nI (brn T V k))) 64 k (nI 2)) 63 ((8 * (tbu T k)) + (vnm V k)) (nI ((vh V ((8 * (tbu T k)) + (vnm V k))) + 0))) 48 25 (nmv (vfb V))))) rfl ?_
            refine x_top (v' := fwv (vfw V)) m6 ?_
            refine run_ok 1 (c' := (152, [(0, .ref 48), (1, .int (nI k)), (2, .int (nI w)), (3, .int (nI (vh V ((8 * (vnm V k)) + (tbu T k))))), (4, .int (nI ((8 * (tbu T k)) + (vnm V k))))], [.int (-1), .int (fwv (vfw V)), .ref 48], (pt (pt (pt (pt S 66 k (nI (brn T V k))) 64 k (nI 2)) 63 ((8 * (tbu T k)) + (vnm V k)) (nI ((vh V ((8 * (tbu T k)) + (vnm V k))) + 0))) 48 25 (nmv (vfb V))))) rfl ?_
            refine x_icmp_ne 159 rfl rfl (fun h152 => ?_) (fun hn => absurd hn h132)
            refine run_ok 2 (c' := (163, [(0, .ref 48), (1, .int (nI k)), (2, .int (nI w)), (3, .int (nI (vh V ((8 * (vnm V k)) + (tbu T k))))), (4, .int (nI ((8 * (tbu T k)) + (vnm V k))))], [.int (S.1 48 24), .ref 48], (pt (pt (pt (pt S 66 k (nI (brn T V k))) 64 k (nI 2)) 63 ((8 * (tbu T k)) + (vnm V k)) (nI ((vh V ((8 * (tbu T k)) + (vnm V k))) + 0))) 48 25 (nmv (vfb V))))) rfl ?_
            refine x_top (v' := fwv (vfw V)) m6 ?_
            refine run_ok 1 (c' := (166, [(0, .ref 48), (1, .int (nI k)), (2, .int (nI w)), (3, .int (nI (vh V ((8 * (vnm V k)) + (tbu T k))))), (4, .int (nI ((8 * (tbu T k)) + (vnm V k))))], [], (pt (pt (pt (pt (pt S 66 k (nI (brn T V k))) 64 k (nI 2)) 63 ((8 * (tbu T k)) + (vnm V k)) (nI ((vh V ((8 * (tbu T k)) + (vnm V k))) + 0))) 48 25 (nmv (vfb V))) 48 24 (fwv (vfw V))))) rfl ?_
            refine x_ret (r := none) rfl rfl trivial ?_ rfl
            have hb := bea_s (T := T) (w := w) (V := V) (k := k) (by first | exact Or.inl h62 | exact Or.inr h71)
            refine ⟨rfl, ?_, ((((fr.rf.pt (by decide)).pt (by decide)).pt (by decide)).pt (by decide)).pt (by decide), f48.two, rfl⟩
            rw [hb]
            refine ⟨?_, (m2.put : rh (pt S 64 k (nI 2)) 64 (tnb T) _), m3, (m4.put : rh (pt S 66 k (nI (brn T V k))) 66 (tnb T) _), m5, ?_, ?_⟩
            · show rh _ 63 64 (upn (vh V) (8 * tbu T k + vnm V k) (if vh V (8 * tbu T k + vnm V k) < 9 then vh V (8 * tbu T k + vnm V k) + 1 else vh V (8 * tbu T k + vnm V k)))
              rw [show (if vh V (8 * tbu T k + vnm V k) < 9 then vh V (8 * tbu T k + vnm V k) + 1 else vh V (8 * tbu T k + vnm V k)) = vh V (8 * tbu T k + vnm V k) from if_neg (by omega)]
              exact (m1.put : rh (pt S 63 (8 * tbu T k + vnm V k) (nI (vh V (8 * tbu T k + vnm V k)))) 63 64 _)
            · show fwv (vfw V) = fwv (if vfw V = 24 then w else vfw V)
              rw [if_neg (fun z => h132 ((fwv_n1 hfw).mpr z))]
            · show nmv (vfb V) = nmv (if vfw V = 24 then k else vfb V)
              rw [if_neg (fun z => h132 ((fwv_n1 hfw).mpr z))]
          · refine run_ok 3 (c' := (146, [(0, .ref 48), (1, .int (nI k)), (2, .int (nI w)), (3, .int (nI (vh V ((8 * (vnm V k)) + (tbu T k))))), (4, .int (nI ((8 * (tbu T k)) + (vnm V k))))], [], (pt (pt (pt (pt S 66 k (nI (brn T V k))) 64 k (nI 2)) 63 ((8 * (tbu T k)) + (vnm V k)) (nI ((vh V ((8 * (tbu T k)) + (vnm V k))) + 0))) 48 25 (nI k)))) rfl ?_
            refine run_ok 3 (c' := (151, [(0, .ref 48), (1, .int (nI k)), (2, .int (nI w)), (3, .int (nI (vh V ((8 * (vnm V k)) + (tbu T k))))), (4, .int (nI ((8 * (tbu T k)) + (vnm V k))))], [.int (S.1 48 24), .ref 48], (pt (pt (pt (pt S 66 k (nI (brn T V k))) 64 k (nI 2)) 63 ((8 * (tbu T k)) + (vnm V k)) (nI ((vh V ((8 * (tbu T k)) + (vnm V k))) + 0))) 48 25 (nI k)))) rfl ?_
            refine x_top (v' := fwv (vfw V)) m6 ?_
            refine run_ok 1 (c' := (152, [(0, .ref 48), (1, .int (nI k)), (2, .int (nI w)), (3, .int (nI (vh V ((8 * (vnm V k)) + (tbu T k))))), (4, .int (nI ((8 * (tbu T k)) + (vnm V k))))], [.int (-1), .int (fwv (vfw V)), .ref 48], (pt (pt (pt (pt S 66 k (nI (brn T V k))) 64 k (nI 2)) 63 ((8 * (tbu T k)) + (vnm V k)) (nI ((vh V ((8 * (tbu T k)) + (vnm V k))) + 0))) 48 25 (nI k)))) rfl ?_
            refine x_icmp_ne 159 rfl rfl (fun hn => absurd h132 hn) (fun h152 => ?_)
            refine run_ok 3 (c' := (166, [(0, .ref 48), (1, .int (nI k)), (2, .int (nI w)), (3, .int (nI (vh V ((8 * (vnm V k)) + (tbu T k))))), (4, .int (nI ((8 * (tbu T k)) + (vnm V k))))], [], (pt (pt (pt (pt (pt S 66 k (nI (brn T V k))) 64 k (nI 2)) 63 ((8 * (tbu T k)) + (vnm V k)) (nI ((vh V ((8 * (tbu T k)) + (vnm V k))) + 0))) 48 25 (nI k)) 48 24 (nI w)))) rfl ?_
            refine x_ret (r := none) rfl rfl trivial ?_ rfl
            have hb := bea_s (T := T) (w := w) (V := V) (k := k) (by first | exact Or.inl h62 | exact Or.inr h71)
            refine ⟨rfl, ?_, ((((fr.rf.pt (by decide)).pt (by decide)).pt (by decide)).pt (by decide)).pt (by decide), f48.two, rfl⟩
            rw [hb]
            refine ⟨?_, (m2.put : rh (pt S 64 k (nI 2)) 64 (tnb T) _), m3, (m4.put : rh (pt S 66 k (nI (brn T V k))) 66 (tnb T) _), m5, ?_, ?_⟩
            · show rh _ 63 64 (upn (vh V) (8 * tbu T k + vnm V k) (if vh V (8 * tbu T k + vnm V k) < 9 then vh V (8 * tbu T k + vnm V k) + 1 else vh V (8 * tbu T k + vnm V k)))
              rw [show (if vh V (8 * tbu T k + vnm V k) < 9 then vh V (8 * tbu T k + vnm V k) + 1 else vh V (8 * tbu T k + vnm V k)) = vh V (8 * tbu T k + vnm V k) from if_neg (by omega)]
              exact (m1.put : rh (pt S 63 (8 * tbu T k + vnm V k) (nI (vh V (8 * tbu T k + vnm V k)))) 63 64 _)
            · show nI w = fwv (if vfw V = 24 then w else vfw V)
              rw [if_pos ((fwv_n1 hfw).mp h132), fwv_lt hw]
            · show nI k = nmv (if vfw V = 24 then k else vfb V)
              rw [if_pos ((fwv_n1 hfw).mp h132), nmv_lt (by omega)]
        · refine run_ok 3 (c' := (125, [(0, .ref 48), (1, .int (nI k)), (2, .int (nI w)), (3, .int (nI (vh V ((8 * (vnm V k)) + (tbu T k))))), (4, .int (nI ((8 * (tbu T k)) + (vnm V k))))], [.int ((nI (vh V ((8 * (tbu T k)) + (vnm V k)))) + (nI 1)), .int (nI ((8 * (tbu T k)) + (vnm V k))), .ref 63], (pt (pt S 66 k (nI (brn T V k))) 64 k (nI 2)))) rfl ?_
          refine x_top (v' := nI ((vh V ((8 * (tbu T k)) + (vnm V k))) + 1)) (nI_add _ _) ?_
          refine x_isN rfl rfl (by decide) (by omega) ?_
          refine run_ok 3 (c' := (131, [(0, .ref 48), (1, .int (nI k)), (2, .int (nI w)), (3, .int (nI (vh V ((8 * (vnm V k)) + (tbu T k))))), (4, .int (nI ((8 * (tbu T k)) + (vnm V k))))], [.int (S.1 48 24), .ref 48], (pt (pt (pt S 66 k (nI (brn T V k))) 64 k (nI 2)) 63 ((8 * (tbu T k)) + (vnm V k)) (nI ((vh V ((8 * (tbu T k)) + (vnm V k))) + 1))))) rfl ?_
          refine x_top (v' := fwv (vfw V)) m6 ?_
          refine run_ok 1 (c' := (132, [(0, .ref 48), (1, .int (nI k)), (2, .int (nI w)), (3, .int (nI (vh V ((8 * (vnm V k)) + (tbu T k))))), (4, .int (nI ((8 * (tbu T k)) + (vnm V k))))], [.int (-1), .int (fwv (vfw V)), .ref 48], (pt (pt (pt S 66 k (nI (brn T V k))) 64 k (nI 2)) 63 ((8 * (tbu T k)) + (vnm V k)) (nI ((vh V ((8 * (tbu T k)) + (vnm V k))) + 1))))) rfl ?_
          refine x_icmp_ne 139 rfl rfl (fun h132 => ?_) (fun h132 => ?_)
          · refine run_ok 2 (c' := (143, [(0, .ref 48), (1, .int (nI k)), (2, .int (nI w)), (3, .int (nI (vh V ((8 * (vnm V k)) + (tbu T k))))), (4, .int (nI ((8 * (tbu T k)) + (vnm V k))))], [.int (S.1 48 25), .ref 48], (pt (pt (pt S 66 k (nI (brn T V k))) 64 k (nI 2)) 63 ((8 * (tbu T k)) + (vnm V k)) (nI ((vh V ((8 * (tbu T k)) + (vnm V k))) + 1))))) rfl ?_
            refine x_top (v' := nmv (vfb V)) m7 ?_
            refine run_ok 1 (c' := (146, [(0, .ref 48), (1, .int (nI k)), (2, .int (nI w)), (3, .int (nI (vh V ((8 * (vnm V k)) + (tbu T k))))), (4, .int (nI ((8 * (tbu T k)) + (vnm V k))))], [], (pt (pt (pt (pt S 66 k (nI (brn T V k))) 64 k (nI 2)) 63 ((8 * (tbu T k)) + (vnm V k)) (nI ((vh V ((8 * (tbu T k)) + (vnm V k))) + 1))) 48 25 (nmv (vfb V))))) rfl ?_
            refine run_ok 3 (c' := (151, [(0, .ref 48), (1, .int (nI k)), (2, .int (nI w)), (3, .int (nI (vh V ((8 * (vnm V k)) + (tbu T k))))), (4, .int (nI ((8 * (tbu T k)) + (vnm V k))))], [.int (S.1 48 24), .ref 48], (pt (pt (pt (pt S 66 k (nI (brn T V k))) 64 k (nI 2)) 63 ((8 * (tbu T k)) + (vnm V k)) (nI ((vh V ((8 * (tbu T k)) + (vnm V k))) + 1))) 48 25 (nmv (vfb V))))) rfl ?_
            refine x_top (v' := fwv (vfw V)) m6 ?_
            refine run_ok 1 (c' := (152, [(0, .ref 48), (1, .int (nI k)), (2, .int (nI w)), (3, .int (nI (vh V ((8 * (vnm V k)) + (tbu T k))))), (4, .int (nI ((8 * (tbu T k)) + (vnm V k))))], [.int (-1), .int (fwv (vfw V)), .ref 48], (pt (pt (pt (pt S 66 k (nI (brn T V k))) 64 k (nI 2)) 63 ((8 * (tbu T k)) + (vnm V k)) (nI ((vh V ((8 * (tbu T k)) + (vnm V k))) + 1))) 48 25 (nmv (vfb V))))) rfl ?_
            refine x_icmp_ne 159 rfl rfl (fun h152 => ?_) (fun hn => absurd hn h132)
            refine run_ok 2 (c' := (163, [(0, .ref 48), (1, .int (nI k)), (2, .int (nI w)), (3, .int (nI (vh V ((8 * (vnm V k)) + (tbu T k))))), (4, .int (nI ((8 * (tbu T k)) + (vnm V k))))], [.int (S.1 48 24), .ref 48], (pt (pt (pt (pt S 66 k (nI (brn T V k))) 64 k (nI 2)) 63 ((8 * (tbu T k)) + (vnm V k)) (nI ((vh V ((8 * (tbu T k)) + (vnm V k))) + 1))) 48 25 (nmv (vfb V))))) rfl ?_
            refine x_top (v' := fwv (vfw V)) m6 ?_
            refine run_ok 1 (c' := (166, [(0, .ref 48), (1, .int (nI k)), (2, .int (nI w)), (3, .int (nI (vh V ((8 * (vnm V k)) + (tbu T k))))), (4, .int (nI ((8 * (tbu T k)) + (vnm V k))))], [], (pt (pt (pt (pt (pt S 66 k (nI (brn T V k))) 64 k (nI 2)) 63 ((8 * (tbu T k)) + (vnm V k)) (nI ((vh V ((8 * (tbu T k)) + (vnm V k))) + 1))) 48 25 (nmv (vfb V))) 48 24 (fwv (vfw V))))) rfl ?_
            refine x_ret (r := none) rfl rfl trivial ?_ rfl
            have hb := bea_s (T := T) (w := w) (V := V) (k := k) (by first | exact Or.inl h62 | exact Or.inr h71)
            refine ⟨rfl, ?_, ((((fr.rf.pt (by decide)).pt (by decide)).pt (by decide)).pt (by decide)).pt (by decide), f48.two, rfl⟩
            rw [hb]
            refine ⟨?_, (m2.put : rh (pt S 64 k (nI 2)) 64 (tnb T) _), m3, (m4.put : rh (pt S 66 k (nI (brn T V k))) 66 (tnb T) _), m5, ?_, ?_⟩
            · show rh _ 63 64 (upn (vh V) (8 * tbu T k + vnm V k) (if vh V (8 * tbu T k + vnm V k) < 9 then vh V (8 * tbu T k + vnm V k) + 1 else vh V (8 * tbu T k + vnm V k)))
              rw [show (if vh V (8 * tbu T k + vnm V k) < 9 then vh V (8 * tbu T k + vnm V k) + 1 else vh V (8 * tbu T k + vnm V k)) = vh V (8 * tbu T k + vnm V k) + 1 from if_pos (by omega)]
              exact (m1.put : rh (pt S 63 (8 * tbu T k + vnm V k) (nI (vh V (8 * tbu T k + vnm V k) + 1))) 63 64 _)
            · show fwv (vfw V) = fwv (if vfw V = 24 then w else vfw V)
              rw [if_neg (fun z => h132 ((fwv_n1 hfw).mpr z))]
            · show nmv (vfb V) = nmv (if vfw V = 24 then k else vfb V)
              rw [if_neg (fun z => h132 ((fwv_n1 hfw).mpr z))]
          · refine run_ok 3 (c' := (146, [(0, .ref 48), (1, .int (nI k)), (2, .int (nI w)), (3, .int (nI (vh V ((8 * (vnm V k)) + (tbu T k))))), (4, .int (nI ((8 * (tbu T k)) + (vnm V k))))], [], (pt (pt (pt (pt S 66 k (nI (brn T V k))) 64 k (nI 2)) 63 ((8 * (tbu T k)) + (vnm V k)) (nI ((vh V ((8 * (tbu T k)) + (vnm V k))) + 1))) 48 25 (nI k)))) rfl ?_
            refine run_ok 3 (c' := (151, [(0, .ref 48), (1, .int (nI k)), (2, .int (nI w)), (3, .int (nI (vh V ((8 * (vnm V k)) + (tbu T k))))), (4, .int (nI ((8 * (tbu T k)) + (vnm V k))))], [.int (S.1 48 24), .ref 48], (pt (pt (pt (pt S 66 k (nI (brn T V k))) 64 k (nI 2)) 63 ((8 * (tbu T k)) + (vnm V k)) (nI ((vh V ((8 * (tbu T k)) + (vnm V k))) + 1))) 48 25 (nI k)))) rfl ?_
            refine x_top (v' := fwv (vfw V)) m6 ?_
            refine run_ok 1 (c' := (152, [(0, .ref 48), (1, .int (nI k)), (2, .int (nI w)), (3, .int (nI (vh V ((8 * (vnm V k)) + (tbu T k))))), (4, .int (nI ((8 * (tbu T k)) + (vnm V k))))], [.int (-1), .int (fwv (vfw V)), .ref 48], (pt (pt (pt (pt S 66 k (nI (brn T V k))) 64 k (nI 2)) 63 ((8 * (tbu T k)) + (vnm V k)) (nI ((vh V ((8 * (tbu T k)) + (vnm V k))) + 1))) 48 25 (nI k)))) rfl ?_
            refine x_icmp_ne 159 rfl rfl (fun hn => absurd h132 hn) (fun h152 => ?_)
            refine run_ok 3 (c' := (166, [(0, .ref 48), (1, .int (nI k)), (2, .int (nI w)), (3, .int (nI (vh V ((8 * (vnm V k)) + (tbu T k))))), (4, .int (nI ((8 * (tbu T k)) + (vnm V k))))], [], (pt (pt (pt (pt (pt S 66 k (nI (brn T V k))) 64 k (nI 2)) 63 ((8 * (tbu T k)) + (vnm V k)) (nI ((vh V ((8 * (tbu T k)) + (vnm V k))) + 1))) 48 25 (nI k)) 48 24 (nI w)))) rfl ?_
            refine x_ret (r := none) rfl rfl trivial ?_ rfl
            have hb := bea_s (T := T) (w := w) (V := V) (k := k) (by first | exact Or.inl h62 | exact Or.inr h71)
            refine ⟨rfl, ?_, ((((fr.rf.pt (by decide)).pt (by decide)).pt (by decide)).pt (by decide)).pt (by decide), f48.two, rfl⟩
            rw [hb]
            refine ⟨?_, (m2.put : rh (pt S 64 k (nI 2)) 64 (tnb T) _), m3, (m4.put : rh (pt S 66 k (nI (brn T V k))) 66 (tnb T) _), m5, ?_, ?_⟩
            · show rh _ 63 64 (upn (vh V) (8 * tbu T k + vnm V k) (if vh V (8 * tbu T k + vnm V k) < 9 then vh V (8 * tbu T k + vnm V k) + 1 else vh V (8 * tbu T k + vnm V k)))
              rw [show (if vh V (8 * tbu T k + vnm V k) < 9 then vh V (8 * tbu T k + vnm V k) + 1 else vh V (8 * tbu T k + vnm V k)) = vh V (8 * tbu T k + vnm V k) + 1 from if_pos (by omega)]
              exact (m1.put : rh (pt S 63 (8 * tbu T k + vnm V k) (nI (vh V (8 * tbu T k + vnm V k) + 1))) 63 64 _)
            · show nI w = fwv (if vfw V = 24 then w else vfw V)
              rw [if_pos ((fwv_n1 hfw).mp h132), fwv_lt hw]
            · show nI k = nmv (if vfw V = 24 then k else vfb V)
              rw [if_pos ((fwv_n1 hfw).mp h132), nmv_lt (by omega)]
  · refine run_ok 2 (c' := (41, [(0, .ref 48), (1, .int (nI k)), (2, .int (nI w)), (3, .int (nI (vh V ((8 * (vnm V k)) + (tbu T k)))))], [.int (nI 2), .int (nI (vh V ((8 * (vnm V k)) + (tbu T k)))), .int (nI (vgr V k)), .int (nI k), .ref 66], S)) rfl ?_
    refine x_idiv rfl (by decide) ?_
    refine x_top (v' := nI ((vh V ((8 * (vnm V k)) + (tbu T k))) / 2)) (pk_div (by omega) (by omega) (by omega)) ?_
    refine run_ok 2 (c' := (47, [(0, .ref 48), (1, .int (nI k)), (2, .int (nI w)), (3, .int (nI (vh V ((8 * (vnm V k)) + (tbu T k)))))], [.int ((nI (vgr V k)) + (nI ((vh V ((8 * (vnm V k)) + (tbu T k))) / 2))), .int (nI k), .ref 66], S)) rfl ?_
    refine x_top (v' := nI ((vgr V k) + ((vh V ((8 * (vnm V k)) + (tbu T k))) / 2))) (nI_add _ _) ?_
    refine x_top (v' := nI (brn T V k)) (by unfold brn; rw [if_pos h36]) ?_
    refine x_isN rfl rfl (by decide) (by omega) ?_
    refine run_ok 3 (c' := (53, [(0, .ref 48), (1, .int (nI k)), (2, .int (nI w)), (3, .int (nI (vh V ((8 * (vnm V k)) + (tbu T k)))))], [.int (nI k), .ref 66], (pt S 66 k (nI (brn T V k))))) rfl ?_
    refine x_iaN (nI (brn T V k)) rfl rfl (by decide) (by omega) (upd_s _ _ _) ?_
    refine run_ok 4 (c' := (60, [(0, .ref 48), (1, .int (nI k)), (2, .int (nI w)), (3, .int (nI (vh V ((8 * (vnm V k)) + (tbu T k)))))], [.int (nI k), .ref 67, .int (nI 3), .int (nI (brn T V k))], (pt S 66 k (nI (brn T V k))))) rfl ?_
    refine x_iaN (nI (vho V k)) rfl rfl (by decide) (by omega) (m5 k (by omega)) ?_
    refine run_ok 1 (c' := (62, [(0, .ref 48), (1, .int (nI k)), (2, .int (nI w)), (3, .int (nI (vh V ((8 * (vnm V k)) + (tbu T k)))))], [.int ((nI 3) * (nI (vho V k))), .int (nI (brn T V k))], (pt S 66 k (nI (brn T V k))))) rfl ?_
    refine x_top (v' := nI (3 * (vho V k))) (pk_mul _ _) ?_
    refine x_icmpN_gt 74 rfl rfl (by omega) (by omega) (fun h62 => ?_) (fun h62 => ?_)
    · refine run_ok 4 (c' := (81, [(0, .ref 48), (1, .int (nI k)), (2, .int (nI w)), (3, .int (nI (vh V ((8 * (vnm V k)) + (tbu T k)))))], [.int (nI k), .ref 54, .int (nI 8)], (pt S 66 k (nI (brn T V k))))) rfl ?_
      refine x_iaN (nI (tbu T k)) rfl rfl (by decide) (by omega) (t3 k (by omega)) ?_
      refine run_ok 1 (c' := (83, [(0, .ref 48), (1, .int (nI k)), (2, .int (nI w)), (3, .int (nI (vh V ((8 * (vnm V k)) + (tbu T k)))))], [.int ((nI 8) * (nI (tbu T k)))], (pt S 66 k (nI (brn T V k))))) rfl ?_
      refine x_top (v' := nI (8 * (tbu T k))) (pk_mul _ _) ?_
      refine run_ok 3 (c' := (88, [(0, .ref 48), (1, .int (nI k)), (2, .int (nI w)), (3, .int (nI (vh V ((8 * (vnm V k)) + (tbu T k)))))], [.int (nI k), .ref 65, .int (nI (8 * (tbu T k)))], (pt S 66 k (nI (brn T V k))))) rfl ?_
      refine x_iaN (nI (vnm V k)) rfl rfl (by decide) (by omega) ((m3 k hk).trans (nmv_lt hnm)) ?_
      refine run_ok 1 (c' := (90, [(0, .ref 48), (1, .int (nI k)), (2, .int (nI w)), (3, .int (nI (vh V ((8 * (vnm V k)) + (tbu T k)))))], [.int ((nI (8 * (tbu T k))) + (nI (vnm V k)))], (pt S 66 k (nI (brn T V k))))) rfl ?_
      refine x_top (v' := nI ((8 * (tbu T k)) + (vnm V k))) (nI_add _ _) ?_
      refine run_ok 5 (c' := (98, [(0, .ref 48), (1, .int (nI k)), (2, .int (nI w)), (3, .int (nI (vh V ((8 * (vnm V k)) + (tbu T k))))), (4, .int (nI ((8 * (tbu T k)) + (vnm V k))))], [.int (nI 2), .int (nI k), .ref 64], (pt S 66 k (nI (brn T V k))))) rfl ?_
      refine x_isN rfl rfl (by decide) (by omega) ?_
      refine run_ok 4 (c' := (106, [(0, .ref 48), (1, .int (nI k)), (2, .int (nI w)), (3, .int (nI (vh V ((8 * (vnm V k)) + (tbu T k))))), (4, .int (nI ((8 * (tbu T k)) + (vnm V k))))], [.int (nI ((8 * (tbu T k)) + (vnm V k))), .ref 63, .int (nI ((8 * (tbu T k)) + (vnm V k))), .ref 63], (pt (pt S 66 k (nI (brn T V k))) 64 k (nI 2)))) rfl ?_
      refine x_iaN (nI (vh V ((8 * (tbu T k)) + (vnm V k)))) rfl rfl (by decide) (by omega) (m1 ((8 * (tbu T k)) + (vnm V k)) (by omega)) ?_
      refine run_ok 3 (c' := (113, [(0, .ref 48), (1, .int (nI k)), (2, .int (nI w)), (3, .int (nI (vh V ((8 * (vnm V k)) + (tbu T k))))), (4, .int (nI ((8 * (tbu T k)) + (vnm V k))))], [.int (nI ((8 * (tbu T k)) + (vnm V k))), .ref 63, .int (nI (vh V ((8 * (tbu T k)) + (vnm V k)))), .int (nI ((8 * (tbu T k)) + (vnm V k))), .ref 63], (pt (pt S 66 k (nI (brn T V k))) 64 k (nI 2)))) rfl ?_
      refine x_iaN (nI (vh V ((8 * (tbu T k)) + (vnm V k)))) rfl rfl (by decide) (by omega) (m1 ((8 * (tbu T k)) + (vnm V k)) (by omega)) ?_
      refine run_ok 1 (c' := (116, [(0, .ref 48), (1, .int (nI k)), (2, .int (nI w)), (3, .int (nI (vh V ((8 * (vnm V k)) + (tbu T k))))), (4, .int (nI ((8 * (tbu T k)) + (vnm V k))))], [.int (nI 9), .int (nI (vh V ((8 * (tbu T k)) + (vnm V k)))), .int (nI (vh V ((8 * (tbu T k)) + (vnm V k)))), .int (nI ((8 * (tbu T k)) + (vnm V k))), .ref 63], (pt (pt S 66 k (nI (brn T V k))) 64 k (nI 2)))) rfl ?_
      refine x_icmpN_ge 123 rfl rfl (by omega) (by omega) (fun h116 => ?_) (fun h116 => ?_)
      · refine run_ok 2 (c' := (125, [(0, .ref 48), (1, .int (nI k)), (2, .int (nI w)), (3, .int (nI (vh V ((8 * (vnm V k)) + (tbu T k))))), (4, .int (nI ((8 * (tbu T k)) + (vnm V k))))], [.int ((nI (vh V ((8 * (tbu T k)) + (vnm V k)))) + (nI 0)), .int (nI ((8 * (tbu T k)) + (vnm V k))), .ref 63], (pt (pt S 66 k (nI (brn T V k))) 64 k (nI 2)))) rfl ?_
        refine x_top (v' := nI ((vh V ((8 * (tbu T k)) + (vnm V k))) + 0)) (nI_add _ _) ?_
        refine x_isN rfl rfl (by decide) (by omega) ?_
        refine run_ok 3 (c' := (131, [(0, .ref 48), (1, .int (nI k)), (2, .int (nI w)), (3, .int (nI (vh V ((8 * (vnm V k)) + (tbu T k))))), (4, .int (nI ((8 * (tbu T k)) + (vnm V k))))], [.int (S.1 48 24), .ref 48], (pt (pt (pt S 66 k (nI (brn T V k))) 64 k (nI 2)) 63 ((8 * (tbu T k)) + (vnm V k)) (nI ((vh V ((8 * (tbu T k)) + (vnm V k))) + 0))))) rfl ?_
        refine x_top (v' := fwv (vfw V)) m6 ?_
        refine run_ok 1 (c' := (132, [(0, .ref 48), (1, .int (nI k)), (2, .int (nI w)), (3, .int (nI (vh V ((8 * (vnm V k)) + (tbu T k))))), (4, .int (nI ((8 * (tbu T k)) + (vnm V k))))], [.int (-1), .int (fwv (vfw V)), .ref 48], (pt (pt (pt S 66 k (nI (brn T V k))) 64 k (nI 2)) 63 ((8 * (tbu T k)) + (vnm V k)) (nI ((vh V ((8 * (tbu T k)) + (vnm V k))) + 0))))) rfl ?_
        refine x_icmp_ne 139 rfl rfl (fun h132 => ?_) (fun h132 => ?_)
        · refine run_ok 2 (c' := (143, [(0, .ref 48), (1, .int (nI k)), (2, .int (nI w)), (3, .int (nI (vh V ((8 * (vnm V k)) + (tbu T k))))), (4, .int (nI ((8 * (tbu T k)) + (vnm V k))))], [.int (S.1 48 25), .ref 48], (pt (pt (pt S 66 k (nI (brn T V k))) 64 k (nI 2)) 63 ((8 * (tbu T k)) + (vnm V k)) (nI ((vh V ((8 * (tbu T k)) + (vnm V k))) + 0))))) rfl ?_
          refine x_top (v' := nmv (vfb V)) m7 ?_
          refine run_ok 1 (c' := (146, [(0, .ref 48), (1, .int (nI k)), (2, .int (nI w)), (3, .int (nI (vh V ((8 * (vnm V k)) + (tbu T k))))), (4, .int (nI ((8 * (tbu T k)) + (vnm V k))))], [], (pt (pt (pt (pt S 66 k (nI (brn T V k))) 64 k (nI 2)) 63 ((8 * (tbu T k)) + (vnm V k)) (nI ((vh V ((8 * (tbu T k)) + (vnm V k))) + 0))) 48 25 (nmv (vfb V))))) rfl ?_
          refine run_ok 3 (c' := (151, [(0, .ref 48), (1, .int (nI k)), (2, .int (nI w)), (3, .int (nI (vh V ((8 * (vnm V k)) + (tbu T k))))), (4, .int (nI ((8 * (tbu T k)) + (vnm V k))))], [.int (S.1 48 24), .ref 48], (pt (pt (pt (pt S 66 k (nI (brn T V k))) 64 k (nI 2)) 63 ((8 * (tbu T k)) + (vnm V k)) (nI ((vh V ((8 * (tbu T k)) + (vnm V k))) + 0))) 48 25 (nmv (vfb V))))) rfl ?_
          refine x_top (v' := fwv (vfw V)) m6 ?_
          refine run_ok 1 (c' := (152, [(0, .ref 48), (1, .int (nI k)), (2, .int (nI w)), (3, .int (nI (vh V ((8 * (vnm V k)) + (tbu T k))))), (4, .int (nI ((8 * (tbu T k)) + (vnm V k))))], [.int (-1), .int (fwv (vfw V)), .ref 48], (pt (pt (pt (pt S 66 k (nI (brn T V k))) 64 k (nI 2)) 63 ((8 * (tbu T k)) + (vnm V k)) (nI ((vh V ((8 * (tbu T k)) + (vnm V k))) + 0))) 48 25 (nmv (vfb V))))) rfl ?_
          refine x_icmp_ne 159 rfl rfl (fun h152 => ?_) (fun hn => absurd hn h132)
          refine run_ok 2 (c' := (163, [(0, .ref 48), (1, .int (nI k)), (2, .int (nI w)), (3, .int (nI (vh V ((8 * (vnm V k)) + (tbu T k))))), (4, .int (nI ((8 * (tbu T k)) + (vnm V k))))], [.int (S.1 48 24), .ref 48], (pt (pt (pt (pt S 66 k (nI (brn T V k))) 64 k (nI 2)) 63 ((8 * (tbu T k)) + (vnm V k)) (nI ((vh V ((8 * (tbu T k)) + (vnm V k))) + 0))) 48 25 (nmv (vfb V))))) rfl ?_
          refine x_top (v' := fwv (vfw V)) m6 ?_
          refine run_ok 1 (c' := (166, [(0, .ref 48), (1, .int (nI k)), (2, .int (nI w)), (3, .int (nI (vh V ((8 * (vnm V k)) + (tbu T k))))), (4, .int (nI ((8 * (tbu T k)) + (vnm V k))))], [], (pt (pt (pt (pt (pt S 66 k (nI (brn T V k))) 64 k (nI 2)) 63 ((8 * (tbu T k)) + (vnm V k)) (nI ((vh V ((8 * (tbu T k)) + (vnm V k))) + 0))) 48 25 (nmv (vfb V))) 48 24 (fwv (vfw V))))) rfl ?_
          refine x_ret (r := none) rfl rfl trivial ?_ rfl
          have hb := bea_s (T := T) (w := w) (V := V) (k := k) (by first | exact Or.inl h62 | exact Or.inr h71)
          refine ⟨rfl, ?_, ((((fr.rf.pt (by decide)).pt (by decide)).pt (by decide)).pt (by decide)).pt (by decide), f48.two, rfl⟩
          rw [hb]
          refine ⟨?_, (m2.put : rh (pt S 64 k (nI 2)) 64 (tnb T) _), m3, (m4.put : rh (pt S 66 k (nI (brn T V k))) 66 (tnb T) _), m5, ?_, ?_⟩
          · show rh _ 63 64 (upn (vh V) (8 * tbu T k + vnm V k) (if vh V (8 * tbu T k + vnm V k) < 9 then vh V (8 * tbu T k + vnm V k) + 1 else vh V (8 * tbu T k + vnm V k)))
            rw [show (if vh V (8 * tbu T k + vnm V k) < 9 then vh V (8 * tbu T k + vnm V k) + 1 else vh V (8 * tbu T k + vnm V k)) = vh V (8 * tbu T k + vnm V k) from if_neg (by omega)]
            exact (m1.put : rh (pt S 63 (8 * tbu T k + vnm V k) (nI (vh V (8 * tbu T k + vnm V k)))) 63 64 _)
          · show fwv (vfw V) = fwv (if vfw V = 24 then w else vfw V)
            rw [if_neg (fun z => h132 ((fwv_n1 hfw).mpr z))]
          · show nmv (vfb V) = nmv (if vfw V = 24 then k else vfb V)
            rw [if_neg (fun z => h132 ((fwv_n1 hfw).mpr z))]
        · refine run_ok 3 (c' := (146, [(0, .ref 48), (1, .int (nI k)), (2, .int (nI w)), (3, .int (nI (vh V ((8 * (vnm V k)) + (tbu T k))))), (4, .int (nI ((8 * (tbu T k)) + (vnm V k))))], [], (pt (pt (pt (pt S 66 k (nI (brn T V k))) 64 k (nI 2)) 63 ((8 * (tbu T k)) + (vnm V k)) (nI ((vh V ((8 * (tbu T k)) + (vnm V k))) + 0))) 48 25 (nI k)))) rfl ?_
          refine run_ok 3 (c' := (151, [(0, .ref 48), (1, .int (nI k)), (2, .int (nI w)), (3, .int (nI (vh V ((8 * (vnm V k)) + (tbu T k))))), (4, .int (nI ((8 * (tbu T k)) + (vnm V k))))], [.int (S.1 48 24), .ref 48], (pt (pt (pt (pt S 66 k (nI (brn T V k))) 64 k (nI 2)) 63 ((8 * (tbu T k)) + (vnm V k)) (nI ((vh V ((8 * (tbu T k)) + (vnm V k))) + 0))) 48 25 (nI k)))) rfl ?_
          refine x_top (v' := fwv (vfw V)) m6 ?_
          refine run_ok 1 (c' := (152, [(0, .ref 48), (1, .int (nI k)), (2, .int (nI w)), (3, .int (nI (vh V ((8 * (vnm V k)) + (tbu T k))))), (4, .int (nI ((8 * (tbu T k)) + (vnm V k))))], [.int (-1), .int (fwv (vfw V)), .ref 48], (pt (pt (pt (pt S 66 k (nI (brn T V k))) 64 k (nI 2)) 63 ((8 * (tbu T k)) + (vnm V k)) (nI ((vh V ((8 * (tbu T k)) + (vnm V k))) + 0))) 48 25 (nI k)))) rfl ?_
          refine x_icmp_ne 159 rfl rfl (fun hn => absurd h132 hn) (fun h152 => ?_)
          refine run_ok 3 (c' := (166, [(0, .ref 48), (1, .int (nI k)), (2, .int (nI w)), (3, .int (nI (vh V ((8 * (vnm V k)) + (tbu T k))))), (4, .int (nI ((8 * (tbu T k)) + (vnm V k))))], [], (pt (pt (pt (pt (pt S 66 k (nI (brn T V k))) 64 k (nI 2)) 63 ((8 * (tbu T k)) + (vnm V k)) (nI ((vh V ((8 * (tbu T k)) + (vnm V k))) + 0))) 48 25 (nI k)) 48 24 (nI w)))) rfl ?_
          refine x_ret (r := none) rfl rfl trivial ?_ rfl
          have hb := bea_s (T := T) (w := w) (V := V) (k := k) (by first | exact Or.inl h62 | exact Or.inr h71)
          refine ⟨rfl, ?_, ((((fr.rf.pt (by decide)).pt (by decide)).pt (by decide)).pt (by decide)).pt (by decide), f48.two, rfl⟩
          rw [hb]
          refine ⟨?_, (m2.put : rh (pt S 64 k (nI 2)) 64 (tnb T) _), m3, (m4.put : rh (pt S 66 k (nI (brn T V k))) 66 (tnb T) _), m5, ?_, ?_⟩
          · show rh _ 63 64 (upn (vh V) (8 * tbu T k + vnm V k) (if vh V (8 * tbu T k + vnm V k) < 9 then vh V (8 * tbu T k + vnm V k) + 1 else vh V (8 * tbu T k + vnm V k)))
            rw [show (if vh V (8 * tbu T k + vnm V k) < 9 then vh V (8 * tbu T k + vnm V k) + 1 else vh V (8 * tbu T k + vnm V k)) = vh V (8 * tbu T k + vnm V k) from if_neg (by omega)]
            exact (m1.put : rh (pt S 63 (8 * tbu T k + vnm V k) (nI (vh V (8 * tbu T k + vnm V k)))) 63 64 _)
          · show nI w = fwv (if vfw V = 24 then w else vfw V)
            rw [if_pos ((fwv_n1 hfw).mp h132), fwv_lt hw]
          · show nI k = nmv (if vfw V = 24 then k else vfb V)
            rw [if_pos ((fwv_n1 hfw).mp h132), nmv_lt (by omega)]
      · refine run_ok 3 (c' := (125, [(0, .ref 48), (1, .int (nI k)), (2, .int (nI w)), (3, .int (nI (vh V ((8 * (vnm V k)) + (tbu T k))))), (4, .int (nI ((8 * (tbu T k)) + (vnm V k))))], [.int ((nI (vh V ((8 * (tbu T k)) + (vnm V k)))) + (nI 1)), .int (nI ((8 * (tbu T k)) + (vnm V k))), .ref 63], (pt (pt S 66 k (nI (brn T V k))) 64 k (nI 2)))) rfl ?_
        refine x_top (v' := nI ((vh V ((8 * (tbu T k)) + (vnm V k))) + 1)) (nI_add _ _) ?_
        refine x_isN rfl rfl (by decide) (by omega) ?_
        refine run_ok 3 (c' := (131, [(0, .ref 48), (1, .int (nI k)), (2, .int (nI w)), (3, .int (nI (vh V ((8 * (vnm V k)) + (tbu T k))))), (4, .int (nI ((8 * (tbu T k)) + (vnm V k))))], [.int (S.1 48 24), .ref 48], (pt (pt (pt S 66 k (nI (brn T V k))) 64 k (nI 2)) 63 ((8 * (tbu T k)) + (vnm V k)) (nI ((vh V ((8 * (tbu T k)) + (vnm V k))) + 1))))) rfl ?_
        refine x_top (v' := fwv (vfw V)) m6 ?_
        refine run_ok 1 (c' := (132, [(0, .ref 48), (1, .int (nI k)), (2, .int (nI w)), (3, .int (nI (vh V ((8 * (vnm V k)) + (tbu T k))))), (4, .int (nI ((8 * (tbu T k)) + (vnm V k))))], [.int (-1), .int (fwv (vfw V)), .ref 48], (pt (pt (pt S 66 k (nI (brn T V k))) 64 k (nI 2)) 63 ((8 * (tbu T k)) + (vnm V k)) (nI ((vh V ((8 * (tbu T k)) + (vnm V k))) + 1))))) rfl ?_
        refine x_icmp_ne 139 rfl rfl (fun h132 => ?_) (fun h132 => ?_)
        · refine run_ok 2 (c' := (143, [(0, .ref 48), (1, .int (nI k)), (2, .int (nI w)), (3, .int (nI (vh V ((8 * (vnm V k)) + (tbu T k))))), (4, .int (nI ((8 * (tbu T k)) + (vnm V k))))], [.int (S.1 48 25), .ref 48], (pt (pt (pt S 66 k (nI (brn T V k))) 64 k (nI 2)) 63 ((8 * (tbu T k)) + (vnm V k)) (nI ((vh V ((8 * (tbu T k)) + (vnm V k))) + 1))))) rfl ?_
          refine x_top (v' := nmv (vfb V)) m7 ?_
          refine run_ok 1 (c' := (146, [(0, .ref 48), (1, .int (nI k)), (2, .int (nI w)), (3, .int (nI (vh V ((8 * (vnm V k)) + (tbu T k))))), (4, .int (nI ((8 * (tbu T k)) + (vnm V k))))], [], (pt (pt (pt (pt S 66 k (nI (brn T V k))) 64 k (nI 2)) 63 ((8 * (tbu T k)) + (vnm V k)) (nI ((vh V ((8 * (tbu T k)) + (vnm V k))) + 1))) 48 25 (nmv (vfb V))))) rfl ?_
          refine run_ok 3 (c' := (151, [(0, .ref 48), (1, .int (nI k)), (2, .int (nI w)), (3, .int (nI (vh V ((8 * (vnm V k)) + (tbu T k))))), (4, .int (nI ((8 * (tbu T k)) + (vnm V k))))], [.int (S.1 48 24), .ref 48], (pt (pt (pt (pt S 66 k (nI (brn T V k))) 64 k (nI 2)) 63 ((8 * (tbu T k)) + (vnm V k)) (nI ((vh V ((8 * (tbu T k)) + (vnm V k))) + 1))) 48 25 (nmv (vfb V))))) rfl ?_
          refine x_top (v' := fwv (vfw V)) m6 ?_
          refine run_ok 1 (c' := (152, [(0, .ref 48), (1, .int (nI k)), (2, .int (nI w)), (3, .int (nI (vh V ((8 * (vnm V k)) + (tbu T k))))), (4, .int (nI ((8 * (tbu T k)) + (vnm V k))))], [.int (-1), .int (fwv (vfw V)), .ref 48], (pt (pt (pt (pt S 66 k (nI (brn T V k))) 64 k (nI 2)) 63 ((8 * (tbu T k)) + (vnm V k)) (nI ((vh V ((8 * (tbu T k)) + (vnm V k))) + 1))) 48 25 (nmv (vfb V))))) rfl ?_
          refine x_icmp_ne 159 rfl rfl (fun h152 => ?_) (fun hn => absurd hn h132)
          refine run_ok 2 (c' := (163, [(0, .ref 48), (1, .int (nI k)), (2, .int (nI w)), (3, .int (nI (vh V ((8 * (vnm V k)) + (tbu T k))))), (4, .int (nI ((8 * (tbu T k)) + (vnm V k))))], [.int (S.1 48 24), .ref 48], (pt (pt (pt (pt S 66 k (nI (brn T V k))) 64 k (nI 2)) 63 ((8 * (tbu T k)) + (vnm V k)) (nI ((vh V ((8 * (tbu T k)) + (vnm V k))) + 1))) 48 25 (nmv (vfb V))))) rfl ?_
          refine x_top (v' := fwv (vfw V)) m6 ?_
          refine run_ok 1 (c' := (166, [(0, .ref 48), (1, .int (nI k)), (2, .int (nI w)), (3, .int (nI (vh V ((8 * (vnm V k)) + (tbu T k))))), (4, .int (nI ((8 * (tbu T k)) + (vnm V k))))], [], (pt (pt (pt (pt (pt S 66 k (nI (brn T V k))) 64 k (nI 2)) 63 ((8 * (tbu T k)) + (vnm V k)) (nI ((vh V ((8 * (tbu T k)) + (vnm V k))) + 1))) 48 25 (nmv (vfb V))) 48 24 (fwv (vfw V))))) rfl ?_
          refine x_ret (r := none) rfl rfl trivial ?_ rfl
          have hb := bea_s (T := T) (w := w) (V := V) (k := k) (by first | exact Or.inl h62 | exact Or.inr h71)
          refine ⟨rfl, ?_, ((((fr.rf.pt (by decide)).pt (by decide)).pt (by decide)).pt (by decide)).pt (by decide), f48.two, rfl⟩
          rw [hb]
          refine ⟨?_, (m2.put : rh (pt S 64 k (nI 2)) 64 (tnb T) _), m3, (m4.put : rh (pt S 66 k (nI (brn T V k))) 66 (tnb T) _), m5, ?_, ?_⟩
          · show rh _ 63 64 (upn (vh V) (8 * tbu T k + vnm V k) (if vh V (8 * tbu T k + vnm V k) < 9 then vh V (8 * tbu T k + vnm V k) + 1 else vh V (8 * tbu T k + vnm V k)))
            rw [show (if vh V (8 * tbu T k + vnm V k) < 9 then vh V (8 * tbu T k + vnm V k) + 1 else vh V (8 * tbu T k + vnm V k)) = vh V (8 * tbu T k + vnm V k) + 1 from if_pos (by omega)]
            exact (m1.put : rh (pt S 63 (8 * tbu T k + vnm V k) (nI (vh V (8 * tbu T k + vnm V k) + 1))) 63 64 _)
          · show fwv (vfw V) = fwv (if vfw V = 24 then w else vfw V)
            rw [if_neg (fun z => h132 ((fwv_n1 hfw).mpr z))]
          · show nmv (vfb V) = nmv (if vfw V = 24 then k else vfb V)
            rw [if_neg (fun z => h132 ((fwv_n1 hfw).mpr z))]
        · refine run_ok 3 (c' := (146, [(0, .ref 48), (1, .int (nI k)), (2, .int (nI w)), (3, .int (nI (vh V ((8 * (vnm V k)) + (tbu T k))))), (4, .int (nI ((8 * (tbu T k)) + (vnm V k))))], [], (pt (pt (pt (pt S 66 k (nI (brn T V k))) 64 k (nI 2)) 63 ((8 * (tbu T k)) + (vnm V k)) (nI ((vh V ((8 * (tbu T k)) + (vnm V k))) + 1))) 48 25 (nI k)))) rfl ?_
          refine run_ok 3 (c' := (151, [(0, .ref 48), (1, .int (nI k)), (2, .int (nI w)), (3, .int (nI (vh V ((8 * (vnm V k)) + (tbu T k))))), (4, .int (nI ((8 * (tbu T k)) + (vnm V k))))], [.int (S.1 48 24), .ref 48], (pt (pt (pt (pt S 66 k (nI (brn T V k))) 64 k (nI 2)) 63 ((8 * (tbu T k)) + (vnm V k)) (nI ((vh V ((8 * (tbu T k)) + (vnm V k))) + 1))) 48 25 (nI k)))) rfl ?_
          refine x_top (v' := fwv (vfw V)) m6 ?_
          refine run_ok 1 (c' := (152, [(0, .ref 48), (1, .int (nI k)), (2, .int (nI w)), (3, .int (nI (vh V ((8 * (vnm V k)) + (tbu T k))))), (4, .int (nI ((8 * (tbu T k)) + (vnm V k))))], [.int (-1), .int (fwv (vfw V)), .ref 48], (pt (pt (pt (pt S 66 k (nI (brn T V k))) 64 k (nI 2)) 63 ((8 * (tbu T k)) + (vnm V k)) (nI ((vh V ((8 * (tbu T k)) + (vnm V k))) + 1))) 48 25 (nI k)))) rfl ?_
          refine x_icmp_ne 159 rfl rfl (fun hn => absurd h132 hn) (fun h152 => ?_)
          refine run_ok 3 (c' := (166, [(0, .ref 48), (1, .int (nI k)), (2, .int (nI w)), (3, .int (nI (vh V ((8 * (vnm V k)) + (tbu T k))))), (4, .int (nI ((8 * (tbu T k)) + (vnm V k))))], [], (pt (pt (pt (pt (pt S 66 k (nI (brn T V k))) 64 k (nI 2)) 63 ((8 * (tbu T k)) + (vnm V k)) (nI ((vh V ((8 * (tbu T k)) + (vnm V k))) + 1))) 48 25 (nI k)) 48 24 (nI w)))) rfl ?_
          refine x_ret (r := none) rfl rfl trivial ?_ rfl
          have hb := bea_s (T := T) (w := w) (V := V) (k := k) (by first | exact Or.inl h62 | exact Or.inr h71)
          refine ⟨rfl, ?_, ((((fr.rf.pt (by decide)).pt (by decide)).pt (by decide)).pt (by decide)).pt (by decide), f48.two, rfl⟩
          rw [hb]
          refine ⟨?_, (m2.put : rh (pt S 64 k (nI 2)) 64 (tnb T) _), m3, (m4.put : rh (pt S 66 k (nI (brn T V k))) 66 (tnb T) _), m5, ?_, ?_⟩
          · show rh _ 63 64 (upn (vh V) (8 * tbu T k + vnm V k) (if vh V (8 * tbu T k + vnm V k) < 9 then vh V (8 * tbu T k + vnm V k) + 1 else vh V (8 * tbu T k + vnm V k)))
            rw [show (if vh V (8 * tbu T k + vnm V k) < 9 then vh V (8 * tbu T k + vnm V k) + 1 else vh V (8 * tbu T k + vnm V k)) = vh V (8 * tbu T k + vnm V k) + 1 from if_pos (by omega)]
            exact (m1.put : rh (pt S 63 (8 * tbu T k + vnm V k) (nI (vh V (8 * tbu T k + vnm V k) + 1))) 63 64 _)
          · show nI w = fwv (if vfw V = 24 then w else vfw V)
            rw [if_pos ((fwv_n1 hfw).mp h132), fwv_lt hw]
          · show nI k = nmv (if vfw V = 24 then k else vfb V)
            rw [if_pos ((fwv_n1 hfw).mp h132), nmv_lt (by omega)]
    · refine run_ok 3 (c' := (70, [(0, .ref 48), (1, .int (nI k)), (2, .int (nI w)), (3, .int (nI (vh V ((8 * (vnm V k)) + (tbu T k)))))], [.int (nI k), .ref 67], (pt S 66 k (nI (brn T V k))))) rfl ?_
      refine x_iaN (nI (vho V k)) rfl rfl (by decide) (by omega) (m5 k (by omega)) ?_
      refine x_ifN_ne 166 rfl rfl (by omega) (fun h71 => ?_) (fun h71 => ?_)
      · refine x_ret (r := none) rfl rfl trivial ?_ rfl
        have hb := bea_n (T := T) (w := w) (V := V) (k := k) (by omega)
        refine ⟨rfl, ?_, fr.rf.pt (by decide), f48.rf, rfl⟩
        rw [hb]
        exact ⟨m1, m2, m3, m4.put, m5, m6, m7⟩
      · refine run_ok 4 (c' := (81, [(0, .ref 48), (1, .int (nI k)), (2, .int (nI w)), (3, .int (nI (vh V ((8 * (vnm V k)) + (tbu T k)))))], [.int (nI k), .ref 54, .int (nI 8)], (pt S 66 k (nI (brn T V k))))) rfl ?_
        refine x_iaN (nI (tbu T k)) rfl rfl (by decide) (by omega) (t3 k (by omega)) ?_
        refine run_ok 1 (c' := (83, [(0, .ref 48), (1, .int (nI k)), (2, .int (nI w)), (3, .int (nI (vh V ((8 * (vnm V k)) + (tbu T k)))))], [.int ((nI 8) * (nI (tbu T k)))], (pt S 66 k (nI (brn T V k))))) rfl ?_
        refine x_top (v' := nI (8 * (tbu T k))) (pk_mul _ _) ?_
        refine run_ok 3 (c' := (88, [(0, .ref 48), (1, .int (nI k)), (2, .int (nI w)), (3, .int (nI (vh V ((8 * (vnm V k)) + (tbu T k)))))], [.int (nI k), .ref 65, .int (nI (8 * (tbu T k)))], (pt S 66 k (nI (brn T V k))))) rfl ?_
        refine x_iaN (nI (vnm V k)) rfl rfl (by decide) (by omega) ((m3 k hk).trans (nmv_lt hnm)) ?_
        refine run_ok 1 (c' := (90, [(0, .ref 48), (1, .int (nI k)), (2, .int (nI w)), (3, .int (nI (vh V ((8 * (vnm V k)) + (tbu T k)))))], [.int ((nI (8 * (tbu T k))) + (nI (vnm V k)))], (pt S 66 k (nI (brn T V k))))) rfl ?_
        refine x_top (v' := nI ((8 * (tbu T k)) + (vnm V k))) (nI_add _ _) ?_
        refine run_ok 5 (c' := (98, [(0, .ref 48), (1, .int (nI k)), (2, .int (nI w)), (3, .int (nI (vh V ((8 * (vnm V k)) + (tbu T k))))), (4, .int (nI ((8 * (tbu T k)) + (vnm V k))))], [.int (nI 2), .int (nI k), .ref 64], (pt S 66 k (nI (brn T V k))))) rfl ?_
        refine x_isN rfl rfl (by decide) (by omega) ?_
        refine run_ok 4 (c' := (106, [(0, .ref 48), (1, .int (nI k)), (2, .int (nI w)), (3, .int (nI (vh V ((8 * (vnm V k)) + (tbu T k))))), (4, .int (nI ((8 * (tbu T k)) + (vnm V k))))], [.int (nI ((8 * (tbu T k)) + (vnm V k))), .ref 63, .int (nI ((8 * (tbu T k)) + (vnm V k))), .ref 63], (pt (pt S 66 k (nI (brn T V k))) 64 k (nI 2)))) rfl ?_
        refine x_iaN (nI (vh V ((8 * (tbu T k)) + (vnm V k)))) rfl rfl (by decide) (by omega) (m1 ((8 * (tbu T k)) + (vnm V k)) (by omega)) ?_
        refine run_ok 3 (c' := (113, [(0, .ref 48), (1, .int (nI k)), (2, .int (nI w)), (3, .int (nI (vh V ((8 * (vnm V k)) + (tbu T k))))), (4, .int (nI ((8 * (tbu T k)) + (vnm V k))))], [.int (nI ((8 * (tbu T k)) + (vnm V k))), .ref 63, .int (nI (vh V ((8 * (tbu T k)) + (vnm V k)))), .int (nI ((8 * (tbu T k)) + (vnm V k))), .ref 63], (pt (pt S 66 k (nI (brn T V k))) 64 k (nI 2)))) rfl ?_
        refine x_iaN (nI (vh V ((8 * (tbu T k)) + (vnm V k)))) rfl rfl (by decide) (by omega) (m1 ((8 * (tbu T k)) + (vnm V k)) (by omega)) ?_
        refine run_ok 1 (c' := (116, [(0, .ref 48), (1, .int (nI k)), (2, .int (nI w)), (3, .int (nI (vh V ((8 * (vnm V k)) + (tbu T k))))), (4, .int (nI ((8 * (tbu T k)) + (vnm V k))))], [.int (nI 9), .int (nI (vh V ((8 * (tbu T k)) + (vnm V k)))), .int (nI (vh V ((8 * (tbu T k)) + (vnm V k)))), .int (nI ((8 * (tbu T k)) + (vnm V k))), .ref 63], (pt (pt S 66 k (nI (brn T V k))) 64 k (nI 2)))) rfl ?_
        refine x_icmpN_ge 123 rfl rfl (by omega) (by omega) (fun h116 => ?_) (fun h116 => ?_)
        · refine run_ok 2 (c' := (125, [(0, .ref 48), (1, .int (nI k)), (2, .int (nI w)), (3, .int (nI (vh V ((8 * (vnm V k)) + (tbu T k))))), (4, .int (nI ((8 * (tbu T k)) + (vnm V k))))], [.int ((nI (vh V ((8 * (tbu T k)) + (vnm V k)))) + (nI 0)), .int (nI ((8 * (tbu T k)) + (vnm V k))), .ref 63], (pt (pt S 66 k (nI (brn T V k))) 64 k (nI 2)))) rfl ?_
          refine x_top (v' := nI ((vh V ((8 * (tbu T k)) + (vnm V k))) + 0)) (nI_add _ _) ?_
          refine x_isN rfl rfl (by decide) (by omega) ?_
          refine run_ok 3 (c' := (131, [(0, .ref 48), (1, .int (nI k)), (2, .int (nI w)), (3, .int (nI (vh V ((8 * (vnm V k)) + (tbu T k))))), (4, .int (nI ((8 * (tbu T k)) + (vnm V k))))], [.int (S.1 48 24), .ref 48], (pt (pt (pt S 66 k (nI (brn T V k))) 64 k (nI 2)) 63 ((8 * (tbu T k)) + (vnm V k)) (nI ((vh V ((8 * (tbu T k)) + (vnm V k))) + 0))))) rfl ?_
          refine x_top (v' := fwv (vfw V)) m6 ?_
          refine run_ok 1 (c' := (132, [(0, .ref 48), (1, .int (nI k)), (2, .int (nI w)), (3, .int (nI (vh V ((8 * (vnm V k)) + (tbu T k))))), (4, .int (nI ((8 * (tbu T k)) + (vnm V k))))], [.int (-1), .int (fwv (vfw V)), .ref 48], (pt (pt (pt S 66 k (nI (brn T V k))) 64 k (nI 2)) 63 ((8 * (tbu T k)) + (vnm V k)) (nI ((vh V ((8 * (tbu T k)) + (vnm V k))) + 0))))) rfl ?_
          refine x_icmp_ne 139 rfl rfl (fun h132 => ?_) (fun h132 => ?_)
          · refine run_ok 2 (c' := (143, [(0, .ref 48), (1, .int (nI k)), (2, .int (nI w)), (3, .int (nI (vh V ((8 * (vnm V k)) + (tbu T k))))), (4, .int (nI ((8 * (tbu T k)) + (vnm V k))))], [.int (S.1 48 25), .ref 48], (pt (pt (pt S 66 k (nI (brn T V k))) 64 k (nI 2)) 63 ((8 * (tbu T k)) + (vnm V k)) (nI ((vh V ((8 * (tbu T k)) + (vnm V k))) + 0))))) rfl ?_
            refine x_top (v' := nmv (vfb V)) m7 ?_
            refine run_ok 1 (c' := (146, [(0, .ref 48), (1, .int (nI k)), (2, .int (nI w)), (3, .int (nI (vh V ((8 * (vnm V k)) + (tbu T k))))), (4, .int (nI ((8 * (tbu T k)) + (vnm V k))))], [], (pt (pt (pt (pt S 66 k (nI (brn T V k))) 64 k (nI 2)) 63 ((8 * (tbu T k)) + (vnm V k)) (nI ((vh V ((8 * (tbu T k)) + (vnm V k))) + 0))) 48 25 (nmv (vfb V))))) rfl ?_
            refine run_ok 3 (c' := (151, [(0, .ref 48), (1, .int (nI k)), (2, .int (nI w)), (3, .int (nI (vh V ((8 * (vnm V k)) + (tbu T k))))), (4, .int (nI ((8 * (tbu T k)) + (vnm V k))))], [.int (S.1 48 24), .ref 48], (pt (pt (pt (pt S 66 k (nI (brn T V k))) 64 k (nI 2)) 63 ((8 * (tbu T k)) + (vnm V k)) (nI ((vh V ((8 * (tbu T k)) + (vnm V k))) + 0))) 48 25 (nmv (vfb V))))) rfl ?_
            refine x_top (v' := fwv (vfw V)) m6 ?_
            refine run_ok 1 (c' := (152, [(0, .ref 48), (1, .int (nI k)), (2, .int (nI w)), (3, .int (nI (vh V ((8 * (vnm V k)) + (tbu T k))))), (4, .int (nI ((8 * (tbu T k)) + (vnm V k))))], [.int (-1), .int (fwv (vfw V)), .ref 48], (pt (pt (pt (pt S 66 k (nI (brn T V k))) 64 k (nI 2)) 63 ((8 * (tbu T k)) + (vnm V k)) (nI ((vh V ((8 * (tbu T k)) + (vnm V k))) + 0))) 48 25 (nmv (vfb V))))) rfl ?_
            refine x_icmp_ne 159 rfl rfl (fun h152 => ?_) (fun hn => absurd hn h132)
            refine run_ok 2 (c' := (163, [(0, .ref 48), (1, .int (nI k)), (2, .int (nI w)), (3, .int (nI (vh V ((8 * (vnm V k)) + (tbu T k))))), (4, .int (nI ((8 * (tbu T k)) + (vnm V k))))], [.int (S.1 48 24), .ref 48], (pt (pt (pt (pt S 66 k (nI (brn T V k))) 64 k (nI 2)) 63 ((8 * (tbu T k)) + (vnm V k)) (nI ((vh V ((8 * (tbu T k)) + (vnm V k))) + 0))) 48 25 (nmv (vfb V))))) rfl ?_
            refine x_top (v' := fwv (vfw V)) m6 ?_
            refine run_ok 1 (c' := (166, [(0, .ref 48), (1, .int (nI k)), (2, .int (nI w)), (3, .int (nI (vh V ((8 * (vnm V k)) + (tbu T k))))), (4, .int (nI ((8 * (tbu T k)) + (vnm V k))))], [], (pt (pt (pt (pt (pt S 66 k (nI (brn T V k))) 64 k (nI 2)) 63 ((8 * (tbu T k)) + (vnm V k)) (nI ((vh V ((8 * (tbu T k)) + (vnm V k))) + 0))) 48 25 (nmv (vfb V))) 48 24 (fwv (vfw V))))) rfl ?_
            refine x_ret (r := none) rfl rfl trivial ?_ rfl
            have hb := bea_s (T := T) (w := w) (V := V) (k := k) (by first | exact Or.inl h62 | exact Or.inr h71)
            refine ⟨rfl, ?_, ((((fr.rf.pt (by decide)).pt (by decide)).pt (by decide)).pt (by decide)).pt (by decide), f48.two, rfl⟩
            rw [hb]
            refine ⟨?_, (m2.put : rh (pt S 64 k (nI 2)) 64 (tnb T) _), m3, (m4.put : rh (pt S 66 k (nI (brn T V k))) 66 (tnb T) _), m5, ?_, ?_⟩
            · show rh _ 63 64 (upn (vh V) (8 * tbu T k + vnm V k) (if vh V (8 * tbu T k + vnm V k) < 9 then vh V (8 * tbu T k + vnm V k) + 1 else vh V (8 * tbu T k + vnm V k)))
              rw [show (if vh V (8 * tbu T k + vnm V k) < 9 then vh V (8 * tbu T k + vnm V k) + 1 else vh V (8 * tbu T k + vnm V k)) = vh V (8 * tbu T k + vnm V k) from if_neg (by omega)]
              exact (m1.put : rh (pt S 63 (8 * tbu T k + vnm V k) (nI (vh V (8 * tbu T k + vnm V k)))) 63 64 _)
            · show fwv (vfw V) = fwv (if vfw V = 24 then w else vfw V)
              rw [if_neg (fun z => h132 ((fwv_n1 hfw).mpr z))]
            · show nmv (vfb V) = nmv (if vfw V = 24 then k else vfb V)
              rw [if_neg (fun z => h132 ((fwv_n1 hfw).mpr z))]
          · refine run_ok 3 (c' := (146, [(0, .ref 48), (1, .int (nI k)), (2, .int (nI w)), (3, .int (nI (vh V ((8 * (vnm V k)) + (tbu T k))))), (4, .int (nI ((8 * (tbu T k)) + (vnm V k))))], [], (pt (pt (pt (pt S 66 k (nI (brn T V k))) 64 k (nI 2)) 63 ((8 * (tbu T k)) + (vnm V k)) (nI ((vh V ((8 * (tbu T k)) + (vnm V k))) + 0))) 48 25 (nI k)))) rfl ?_
            refine run_ok 3 (c' := (151, [(0, .ref 48), (1, .int (nI k)), (2, .int (nI w)), (3, .int (nI (vh V ((8 * (vnm V k)) + (tbu T k))))), (4, .int (nI ((8 * (tbu T k)) + (vnm V k))))], [.int (S.1 48 24), .ref 48], (pt (pt (pt (pt S 66 k (nI (brn T V k))) 64 k (nI 2)) 63 ((8 * (tbu T k)) + (vnm V k)) (nI ((vh V ((8 * (tbu T k)) + (vnm V k))) + 0))) 48 25 (nI k)))) rfl ?_
            refine x_top (v' := fwv (vfw V)) m6 ?_
            refine run_ok 1 (c' := (152, [(0, .ref 48), (1, .int (nI k)), (2, .int (nI w)), (3, .int (nI (vh V ((8 * (vnm V k)) + (tbu T k))))), (4, .int (nI ((8 * (tbu T k)) + (vnm V k))))], [.int (-1), .int (fwv (vfw V)), .ref 48], (pt (pt (pt (pt S 66 k (nI (brn T V k))) 64 k (nI 2)) 63 ((8 * (tbu T k)) + (vnm V k)) (nI ((vh V ((8 * (tbu T k)) + (vnm V k))) + 0))) 48 25 (nI k)))) rfl ?_
            refine x_icmp_ne 159 rfl rfl (fun hn => absurd h132 hn) (fun h152 => ?_)
            refine run_ok 3 (c' := (166, [(0, .ref 48), (1, .int (nI k)), (2, .int (nI w)), (3, .int (nI (vh V ((8 * (vnm V k)) + (tbu T k))))), (4, .int (nI ((8 * (tbu T k)) + (vnm V k))))], [], (pt (pt (pt (pt (pt S 66 k (nI (brn T V k))) 64 k (nI 2)) 63 ((8 * (tbu T k)) + (vnm V k)) (nI ((vh V ((8 * (tbu T k)) + (vnm V k))) + 0))) 48 25 (nI k)) 48 24 (nI w)))) rfl ?_
            refine x_ret (r := none) rfl rfl trivial ?_ rfl
            have hb := bea_s (T := T) (w := w) (V := V) (k := k) (by first | exact Or.inl h62 | exact Or.inr h71)
            refine ⟨rfl, ?_, ((((fr.rf.pt (by decide)).pt (by decide)).pt (by decide)).pt (by decide)).pt (by decide), f48.two, rfl⟩
            rw [hb]
            refine ⟨?_, (m2.put : rh (pt S 64 k (nI 2)) 64 (tnb T) _), m3, (m4.put : rh (pt S 66 k (nI (brn T V k))) 66 (tnb T) _), m5, ?_, ?_⟩
            · show rh _ 63 64 (upn (vh V) (8 * tbu T k + vnm V k) (if vh V (8 * tbu T k + vnm V k) < 9 then vh V (8 * tbu T k + vnm V k) + 1 else vh V (8 * tbu T k + vnm V k)))
              rw [show (if vh V (8 * tbu T k + vnm V k) < 9 then vh V (8 * tbu T k + vnm V k) + 1 else vh V (8 * tbu T k + vnm V k)) = vh V (8 * tbu T k + vnm V k) from if_neg (by omega)]
              exact (m1.put : rh (pt S 63 (8 * tbu T k + vnm V k) (nI (vh V (8 * tbu T k + vnm V k)))) 63 64 _)
            · show nI w = fwv (if vfw V = 24 then w else vfw V)
              rw [if_pos ((fwv_n1 hfw).mp h132), fwv_lt hw]
            · show nI k = nmv (if vfw V = 24 then k else vfb V)
              rw [if_pos ((fwv_n1 hfw).mp h132), nmv_lt (by omega)]
        · refine run_ok 3 (c' := (125, [(0, .ref 48), (1, .int (nI k)), (2, .int (nI w)), (3, .int (nI (vh V ((8 * (vnm V k)) + (tbu T k))))), (4, .int (nI ((8 * (tbu T k)) + (vnm V k))))], [.int ((nI (vh V ((8 * (tbu T k)) + (vnm V k)))) + (nI 1)), .int (nI ((8 * (tbu T k)) + (vnm V k))), .ref 63], (pt (pt S 66 k (nI (brn T V k))) 64 k (nI 2)))) rfl ?_
          refine x_top (v' := nI ((vh V ((8 * (tbu T k)) + (vnm V k))) + 1)) (nI_add _ _) ?_
          refine x_isN rfl rfl (by decide) (by omega) ?_
          refine run_ok 3 (c' := (131, [(0, .ref 48), (1, .int (nI k)), (2, .int (nI w)), (3, .int (nI (vh V ((8 * (vnm V k)) + (tbu T k))))), (4, .int (nI ((8 * (tbu T k)) + (vnm V k))))], [.int (S.1 48 24), .ref 48], (pt (pt (pt S 66 k (nI (brn T V k))) 64 k (nI 2)) 63 ((8 * (tbu T k)) + (vnm V k)) (nI ((vh V ((8 * (tbu T k)) + (vnm V k))) + 1))))) rfl ?_
          refine x_top (v' := fwv (vfw V)) m6 ?_
          refine run_ok 1 (c' := (132, [(0, .ref 48), (1, .int (nI k)), (2, .int (nI w)), (3, .int (nI (vh V ((8 * (vnm V k)) + (tbu T k))))), (4, .int (nI ((8 * (tbu T k)) + (vnm V k))))], [.int (-1), .int (fwv (vfw V)), .ref 48], (pt (pt (pt S 66 k (nI (brn T V k))) 64 k (nI 2)) 63 ((8 * (tbu T k)) + (vnm V k)) (nI ((vh V ((8 * (tbu T k)) + (vnm V k))) + 1))))) rfl ?_
          refine x_icmp_ne 139 rfl rfl (fun h132 => ?_) (fun h132 => ?_)
          · refine run_ok 2 (c' := (143, [(0, .ref 48), (1, .int (nI k)), (2, .int (nI w)), (3, .int (nI (vh V ((8 * (vnm V k)) + (tbu T k))))), (4, .int (nI ((8 * (tbu T k)) + (vnm V k))))], [.int (S.1 48 25), .ref 48], (pt (pt (pt S 66 k (nI (brn T V k))) 64 k (nI 2)) 63 ((8 * (tbu T k)) + (vnm V k)) (nI ((vh V ((8 * (tbu T k)) + (vnm V k))) + 1))))) rfl ?_
            refine x_top (v' := nmv (vfb V)) m7 ?_
            refine run_ok 1 (c' := (146, [(0, .ref 48), (1, .int (nI k)), (2, .int (nI w)), (3, .int (nI (vh V ((8 * (vnm V k)) + (tbu T k))))), (4, .int (nI ((8 * (tbu T k)) + (vnm V k))))], [], (pt (pt (pt (pt S 66 k (nI (brn T V k))) 64 k (nI 2)) 63 ((8 * (tbu T k)) + (vnm V k)) (nI ((vh V ((8 * (tbu T k)) + (vnm V k))) + 1))) 48 25 (nmv (vfb V))))) rfl ?_
            refine run_ok 3 (c' := (151, [(0, .ref 48), (1, .int (nI k)), (2, .int (nI w)), (3, .int (nI (vh V ((8 * (vnm V k)) + (tbu T k))))), (4, .int (nI ((8 * (tbu T k)) + (vnm V k))))], [.int (S.1 48 24), .ref 48], (pt (pt (pt (pt S 66 k (nI (brn T V k))) 64 k (nI 2)) 63 ((8 * (tbu T k)) + (vnm V k)) (nI ((vh V ((8 * (tbu T k)) + (vnm V k))) + 1))) 48 25 (nmv (vfb V))))) rfl ?_
            refine x_top (v' := fwv (vfw V)) m6 ?_
            refine run_ok 1 (c' := (152, [(0, .ref 48), (1, .int (nI k)), (2, .int (nI w)), (3, .int (nI (vh V ((8 * (vnm V k)) + (tbu T k))))), (4, .int (nI ((8 * (tbu T k)) + (vnm V k))))], [.int (-1), .int (fwv (vfw V)), .ref 48], (pt (pt (pt (pt S 66 k (nI (brn T V k))) 64 k (nI 2)) 63 ((8 * (tbu T k)) + (vnm V k)) (nI ((vh V ((8 * (tbu T k)) + (vnm V k))) + 1))) 48 25 (nmv (vfb V))))) rfl ?_
            refine x_icmp_ne 159 rfl rfl (fun h152 => ?_) (fun hn => absurd hn h132)
            refine run_ok 2 (c' := (163, [(0, .ref 48), (1, .int (nI k)), (2, .int (nI w)), (3, .int (nI (vh V ((8 * (vnm V k)) + (tbu T k))))), (4, .int (nI ((8 * (tbu T k)) + (vnm V k))))], [.int (S.1 48 24), .ref 48], (pt (pt (pt (pt S 66 k (nI (brn T V k))) 64 k (nI 2)) 63 ((8 * (tbu T k)) + (vnm V k)) (nI ((vh V ((8 * (tbu T k)) + (vnm V k))) + 1))) 48 25 (nmv (vfb V))))) rfl ?_
            refine x_top (v' := fwv (vfw V)) m6 ?_
            refine run_ok 1 (c' := (166, [(0, .ref 48), (1, .int (nI k)), (2, .int (nI w)), (3, .int (nI (vh V ((8 * (vnm V k)) + (tbu T k))))), (4, .int (nI ((8 * (tbu T k)) + (vnm V k))))], [], (pt (pt (pt (pt (pt S 66 k (nI (brn T V k))) 64 k (nI 2)) 63 ((8 * (tbu T k)) + (vnm V k)) (nI ((vh V ((8 * (tbu T k)) + (vnm V k))) + 1))) 48 25 (nmv (vfb V))) 48 24 (fwv (vfw V))))) rfl ?_
            refine x_ret (r := none) rfl rfl trivial ?_ rfl
            have hb := bea_s (T := T) (w := w) (V := V) (k := k) (by first | exact Or.inl h62 | exact Or.inr h71)
            refine ⟨rfl, ?_, ((((fr.rf.pt (by decide)).pt (by decide)).pt (by decide)).pt (by decide)).pt (by decide), f48.two, rfl⟩
            rw [hb]
            refine ⟨?_, (m2.put : rh (pt S 64 k (nI 2)) 64 (tnb T) _), m3, (m4.put : rh (pt S 66 k (nI (brn T V k))) 66 (tnb T) _), m5, ?_, ?_⟩
            · show rh _ 63 64 (upn (vh V) (8 * tbu T k + vnm V k) (if vh V (8 * tbu T k + vnm V k) < 9 then vh V (8 * tbu T k + vnm V k) + 1 else vh V (8 * tbu T k + vnm V k)))
              rw [show (if vh V (8 * tbu T k + vnm V k) < 9 then vh V (8 * tbu T k + vnm V k) + 1 else vh V (8 * tbu T k + vnm V k)) = vh V (8 * tbu T k + vnm V k) + 1 from if_pos (by omega)]
              exact (m1.put : rh (pt S 63 (8 * tbu T k + vnm V k) (nI (vh V (8 * tbu T k + vnm V k) + 1))) 63 64 _)
            · show fwv (vfw V) = fwv (if vfw V = 24 then w else vfw V)
              rw [if_neg (fun z => h132 ((fwv_n1 hfw).mpr z))]
            · show nmv (vfb V) = nmv (if vfw V = 24 then k else vfb V)
              rw [if_neg (fun z => h132 ((fwv_n1 hfw).mpr z))]
          · refine run_ok 3 (c' := (146, [(0, .ref 48), (1, .int (nI k)), (2, .int (nI w)), (3, .int (nI (vh V ((8 * (vnm V k)) + (tbu T k))))), (4, .int (nI ((8 * (tbu T k)) + (vnm V k))))], [], (pt (pt (pt (pt S 66 k (nI (brn T V k))) 64 k (nI 2)) 63 ((8 * (tbu T k)) + (vnm V k)) (nI ((vh V ((8 * (tbu T k)) + (vnm V k))) + 1))) 48 25 (nI k)))) rfl ?_
            refine run_ok 3 (c' := (151, [(0, .ref 48), (1, .int (nI k)), (2, .int (nI w)), (3, .int (nI (vh V ((8 * (vnm V k)) + (tbu T k))))), (4, .int (nI ((8 * (tbu T k)) + (vnm V k))))], [.int (S.1 48 24), .ref 48], (pt (pt (pt (pt S 66 k (nI (brn T V k))) 64 k (nI 2)) 63 ((8 * (tbu T k)) + (vnm V k)) (nI ((vh V ((8 * (tbu T k)) + (vnm V k))) + 1))) 48 25 (nI k)))) rfl ?_
            refine x_top (v' := fwv (vfw V)) m6 ?_
            refine run_ok 1 (c' := (152, [(0, .ref 48), (1, .int (nI k)), (2, .int (nI w)), (3, .int (nI (vh V ((8 * (vnm V k)) + (tbu T k))))), (4, .int (nI ((8 * (tbu T k)) + (vnm V k))))], [.int (-1), .int (fwv (vfw V)), .ref 48], (pt (pt (pt (pt S 66 k (nI (brn T V k))) 64 k (nI 2)) 63 ((8 * (tbu T k)) + (vnm V k)) (nI ((vh V ((8 * (tbu T k)) + (vnm V k))) + 1))) 48 25 (nI k)))) rfl ?_
            refine x_icmp_ne 159 rfl rfl (fun hn => absurd h132 hn) (fun h152 => ?_)
            refine run_ok 3 (c' := (166, [(0, .ref 48), (1, .int (nI k)), (2, .int (nI w)), (3, .int (nI (vh V ((8 * (vnm V k)) + (tbu T k))))), (4, .int (nI ((8 * (tbu T k)) + (vnm V k))))], [], (pt (pt (pt (pt (pt S 66 k (nI (brn T V k))) 64 k (nI 2)) 63 ((8 * (tbu T k)) + (vnm V k)) (nI ((vh V ((8 * (tbu T k)) + (vnm V k))) + 1))) 48 25 (nI k)) 48 24 (nI w)))) rfl ?_
            refine x_ret (r := none) rfl rfl trivial ?_ rfl
            have hb := bea_s (T := T) (w := w) (V := V) (k := k) (by first | exact Or.inl h62 | exact Or.inr h71)
            refine ⟨rfl, ?_, ((((fr.rf.pt (by decide)).pt (by decide)).pt (by decide)).pt (by decide)).pt (by decide), f48.two, rfl⟩
            rw [hb]
            refine ⟨?_, (m2.put : rh (pt S 64 k (nI 2)) 64 (tnb T) _), m3, (m4.put : rh (pt S 66 k (nI (brn T V k))) 66 (tnb T) _), m5, ?_, ?_⟩
            · show rh _ 63 64 (upn (vh V) (8 * tbu T k + vnm V k) (if vh V (8 * tbu T k + vnm V k) < 9 then vh V (8 * tbu T k + vnm V k) + 1 else vh V (8 * tbu T k + vnm V k)))
              rw [show (if vh V (8 * tbu T k + vnm V k) < 9 then vh V (8 * tbu T k + vnm V k) + 1 else vh V (8 * tbu T k + vnm V k)) = vh V (8 * tbu T k + vnm V k) + 1 from if_pos (by omega)]
              exact (m1.put : rh (pt S 63 (8 * tbu T k + vnm V k) (nI (vh V (8 * tbu T k + vnm V k) + 1))) 63 64 _)
            · show nI w = fwv (if vfw V = 24 then w else vfw V)
              rw [if_pos ((fwv_n1 hfw).mp h132), fwv_lt hw]
            · show nI k = nmv (if vfw V = 24 then k else vfb V)
              rw [if_pos ((fwv_n1 hfw).mp h132), nmv_lt (by omega)]


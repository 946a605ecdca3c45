/-! class and model side by side -/
def SHS (sh : Nat → Nat × Nat × Nat) (u : ST) : Prop := ∀ s, s < 4 → HR (38 + 2 * s) (sh s).1 (sh s).2.1 (sh s).2.2 u ∧ HM s (sh s).1 (sh s).2.1 (sh s).2.2 u ∧ ∀ j, j < 60 → u.1 (39 + 2 * s) j = u.1 81 (60 * s + j)
/-- class and model say the same -/
def IV (T : TD) (n : Nat) (b : Nat → Nat) (n' : Nat) (b' : Nat → Nat) (G : SD) (sh : Nat → Nat × Nat × Nat) (u : ST) : Prop :=
  (tok T ∧ sok G) ∧ TR 5 T u ∧ (XR 1 n b u ∧ XR 3 n' b' u) ∧ (u.1 5 1 = nI (hcn n b) ∧ u.1 1 2 = spv (flt (okh b) 4 n) ∧ u.1 3 2 = spv (flt (okb b') 5 n')) ∧ SR G u ∧ ML T n b n' b' u ∧ SM G u ∧ SHS sh u ∧ u.1 0 10 = u.1 48 42
def INV (u : ST) : Prop := ∃ T n b n' b' G sh, IV T n b n' b' G sh u
abbrev QL : List Nat := CQ ++ MQL
/-- nothing lasting has changed -/
def EQV (u v : ST) : Prop := fr QL u v ∧ f48 MF u v
theorem EQV.cq {u v : ST} (h : fr CQ u v) : EQV u v := ⟨h.sub (by decide), f48.of h (by decide)⟩
theorem EQV.qm {u v : ST} (h : QM u v) : EQV u v := ⟨h.1.sub (by decide), h.2.1⟩
theorem EQV.eq {u v : ST} (h : v = u) : EQV u v := by rw [h]; exact ⟨fr.rf, f48.rf⟩
theorem XR.kp {k n : Nat} {b : Nat → Nat} {u v : ST} {ks : List Nat} (h : XR k n b u) (hf : fr ks u v) (hk : k ∉ ks ∧ k + 1 ∉ ks) : XR k n b v := ⟨by rw [hf k hk.1]; exact h.1, h.2.1.keep hf hk.2, h.2.2⟩
theorem XM.kp {t n : Nat} {b : Nat → Nat} {u v : ST} {ks : List Nat} (h : XM t n b u) (hf : fr ks u v) (hk : 49 ∉ ks ∧ 50 ∉ ks) : XM t n b v := ⟨by rw [hf 49 hk.1]; exact h.1, fun j hj => by rw [hf 50 hk.2]; exact h.2.1 j hj, h.2.2⟩
theorem HR.kp {k lo fm sz : Nat} {u v : ST} (h : HR k lo fm sz u) (hf : v.1 k = u.1 k) : HR k lo fm sz v := ⟨by rw [hf]; exact h.1, by rw [hf]; exact h.2.1, by rw [hf]; exact h.2.2.1, h.2.2.2⟩
theorem qk : ∀ s, s < 4 → 38 + 2 * s ∉ QL ∧ 39 + 2 * s ∉ QL := by decide
theorem SHS.eqv {sh : Nat → Nat × Nat × Nat} {u v : ST} (h : SHS sh u) (hf : fr QL u v) : SHS sh v := fun s hs => by
  obtain ⟨h1, h2, h3⟩ := h s hs
  refine ⟨h1.kp (hf _ (qk s hs).1), h2.keep hf (by decide), fun j hj => ?_⟩
  rw [hf _ (qk s hs).2, hf 81 (by decide)]
  exact h3 j hj
theorem IV.eqv {T : TD} {n : Nat} {b : Nat → Nat} {n' : Nat} {b' : Nat → Nat} {G : SD} {sh : Nat → Nat × Nat × Nat} {u v : ST} (h : IV T n b n' b' G sh u) (he : EQV u v) : IV T n b n' b' G sh v := by
  obtain ⟨h1, h2, h3, h4, h5, h6, h7, h8, h9⟩ := h
  obtain ⟨hf, hg⟩ := he
  refine ⟨h1, h2.keep hf (by decide), ⟨h3.1.kp hf (by decide), h3.2.kp hf (by decide)⟩, ⟨by rw [hf 5 (by decide)]; exact h4.1, by rw [hf 1 (by decide)]; exact h4.2.1, by rw [hf 3 (by decide)]; exact h4.2.2⟩, h5.keep hf (by decide), h6.keep hf (by decide) (hg 10 (by decide)), h7.keep hf (by decide) (hg 32 (by decide)), h8.eqv hf, ?_⟩
  rw [hf 0 (by decide), hg 42 (by decide)]
  exact h9
/-- both calls answer the same, and behind them class and model say the same -/
def PRi (mN mR : MI) (av : List Value) (u : ST) : Prop := ∃ (z : Int32) (D1 : Nat) (Q1 : Option Value → ST → Prop), D1 ≤ 11 ∧ EX mN D1 (.ref 0 :: av) u Q1 ∧ ∀ r v, Q1 r v → r = some (.int z) ∧ ∃ (D2 : Nat) (Q2 : Option Value → ST → Prop), D2 ≤ 11 ∧ EX mR D2 (.ref 48 :: av) v Q2 ∧ ∀ r w, Q2 r w → r = some (.int z) ∧ INV w
def PRl (mN mR : MI) (av : List Value) (u : ST) : Prop := ∃ (z : Int64) (D1 : Nat) (Q1 : Option Value → ST → Prop), D1 ≤ 11 ∧ EX mN D1 (.ref 0 :: av) u Q1 ∧ ∀ r v, Q1 r v → r = some (.long z) ∧ ∃ (D2 : Nat) (Q2 : Option Value → ST → Prop), D2 ≤ 11 ∧ EX mR D2 (.ref 48 :: av) v Q2 ∧ ∀ r w, Q2 r w → r = some (.long z) ∧ INV w
theorem PRi.cq {T : TD} {n : Nat} {b : Nat → Nat} {n' : Nat} {b' : Nat → Nat} {G : SD} {sh : Nat → Nat × Nat × Nat} {u : ST} {mN mR : MI} {av : List Value} {D1 D2 : Nat} {z : Int32} (hI : IV T n b n' b' G sh u) (c : EX mN D1 (.ref 0 :: av) u (fun r w => r = some (.int z) ∧ fr CQ u w)) (m : ∀ v, IV T n b n' b' G sh v → EX mR D2 (.ref 48 :: av) v (fun r w => r = some (.int z) ∧ QM v w)) (h1 : D1 ≤ 11 := by decide) (h2 : D2 ≤ 11 := by decide) : PRi mN mR av u :=
  ⟨z, D1, _, h1, c, fun r v h => ⟨h.1, D2, _, h2, m v (hI.eqv (EQV.cq h.2)), fun r w h' => ⟨h'.1, _, _, _, _, _, _, _, (hI.eqv (EQV.cq h.2)).eqv (EQV.qm h'.2)⟩⟩⟩
theorem PRi.eq {T : TD} {n : Nat} {b : Nat → Nat} {n' : Nat} {b' : Nat → Nat} {G : SD} {sh : Nat → Nat × Nat × Nat} {u : ST} {mN mR : MI} {av : List Value} {D1 D2 : Nat} {z : Int32} (hI : IV T n b n' b' G sh u) (c : EX mN D1 (.ref 0 :: av) u (fun r w => r = some (.int z) ∧ w = u)) (m : ∀ v, IV T n b n' b' G sh v → EX mR D2 (.ref 48 :: av) v (fun r w => r = some (.int z) ∧ QM v w)) (h1 : D1 ≤ 11 := by decide) (h2 : D2 ≤ 11 := by decide) : PRi mN mR av u :=
  ⟨z, D1, _, h1, c, fun r v h => ⟨h.1, D2, _, h2, m v (hI.eqv (EQV.eq h.2)), fun r w h' => ⟨h'.1, _, _, _, _, _, _, _, (hI.eqv (EQV.eq h.2)).eqv (EQV.qm h'.2)⟩⟩⟩
theorem PRi.ee {T : TD} {n : Nat} {b : Nat → Nat} {n' : Nat} {b' : Nat → Nat} {G : SD} {sh : Nat → Nat × Nat × Nat} {u : ST} {mN mR : MI} {av : List Value} {D1 D2 : Nat} {z : Int32} (hI : IV T n b n' b' G sh u) (c : EX mN D1 (.ref 0 :: av) u (fun r w => r = some (.int z) ∧ w = u)) (m : ∀ v, IV T n b n' b' G sh v → EX mR D2 (.ref 48 :: av) v (fun r w => r = some (.int z) ∧ w = v)) (h1 : D1 ≤ 11 := by decide) (h2 : D2 ≤ 11 := by decide) : PRi mN mR av u :=
  ⟨z, D1, _, h1, c, fun r v h => ⟨h.1, D2, _, h2, m v (hI.eqv (EQV.eq h.2)), fun r w h' => ⟨h'.1, _, _, _, _, _, _, _, (hI.eqv (EQV.eq h.2)).eqv (EQV.eq h'.2)⟩⟩⟩
theorem PRl.cq {T : TD} {n : Nat} {b : Nat → Nat} {n' : Nat} {b' : Nat → Nat} {G : SD} {sh : Nat → Nat × Nat × Nat} {u : ST} {mN mR : MI} {av : List Value} {D1 D2 : Nat} {z : Int64} (hI : IV T n b n' b' G sh u) (c : EX mN D1 (.ref 0 :: av) u (fun r w => r = some (.long z) ∧ fr CQ u w)) (m : ∀ v, IV T n b n' b' G sh v → EX mR D2 (.ref 48 :: av) v (fun r w => r = some (.long z) ∧ QM v w)) (h1 : D1 ≤ 11 := by decide) (h2 : D2 ≤ 11 := by decide) : PRl mN mR av u :=
  ⟨z, D1, _, h1, c, fun r v h => ⟨h.1, D2, _, h2, m v (hI.eqv (EQV.cq h.2)), fun r w h' => ⟨h'.1, _, _, _, _, _, _, _, (hI.eqv (EQV.cq h.2)).eqv (EQV.qm h'.2)⟩⟩⟩
theorem PRl.eq {T : TD} {n : Nat} {b : Nat → Nat} {n' : Nat} {b' : Nat → Nat} {G : SD} {sh : Nat → Nat × Nat × Nat} {u : ST} {mN mR : MI} {av : List Value} {D1 D2 : Nat} {z : Int64} (hI : IV T n b n' b' G sh u) (c : EX mN D1 (.ref 0 :: av) u (fun r w => r = some (.long z) ∧ w = u)) (m : ∀ v, IV T n b n' b' G sh v → EX mR D2 (.ref 48 :: av) v (fun r w => r = some (.long z) ∧ QM v w)) (h1 : D1 ≤ 11 := by decide) (h2 : D2 ≤ 11 := by decide) : PRl mN mR av u :=
  ⟨z, D1, _, h1, c, fun r v h => ⟨h.1, D2, _, h2, m v (hI.eqv (EQV.eq h.2)), fun r w h' => ⟨h'.1, _, _, _, _, _, _, _, (hI.eqv (EQV.eq h.2)).eqv (EQV.qm h'.2)⟩⟩⟩
theorem PRl.ee {T : TD} {n : Nat} {b : Nat → Nat} {n' : Nat} {b' : Nat → Nat} {G : SD} {sh : Nat → Nat × Nat × Nat} {u : ST} {mN mR : MI} {av : List Value} {D1 D2 : Nat} {z : Int64} (hI : IV T n b n' b' G sh u) (c : EX mN D1 (.ref 0 :: av) u (fun r w => r = some (.long z) ∧ w = u)) (m : ∀ v, IV T n b n' b' G sh v → EX mR D2 (.ref 48 :: av) v (fun r w => r = some (.long z) ∧ w = v)) (h1 : D1 ≤ 11 := by decide) (h2 : D2 ≤ 11 := by decide) : PRl mN mR av u :=
  ⟨z, D1, _, h1, c, fun r v h => ⟨h.1, D2, _, h2, m v (hI.eqv (EQV.eq h.2)), fun r w h' => ⟨h'.1, _, _, _, _, _, _, _, (hI.eqv (EQV.eq h.2)).eqv (EQV.eq h'.2)⟩⟩⟩
/-- a change of the text of hates -/
theorem IV.t0 {T : TD} {n : Nat} {b : Nat → Nat} {n' : Nat} {b' : Nat → Nat} {G : SD} {sh : Nat → Nat × Nat × Nat} {u v w : ST} {m : Nat} {d : Nat → Nat} (h : IV T n b n' b' G sh u) (hP : PH0 u m d v) (hm : m ≤ 47) (hX : XM 0 m d w) (hY : XM 1 n' b' w) (hf : fr [49, 50] v w) : INV w := by
  obtain ⟨⟨to, so⟩, ⟨t1, t2, t3, t4, t5, t6, t7, t8, t9, t10, t11⟩, ⟨x1, x3⟩, ⟨k1, k2, k3⟩, h5, h6, h7, h8, h9⟩ := h
  obtain ⟨p1, p2, p3, p4, p5, p6⟩ := hP
  obtain ⟨l1, l2, l3, l4, l5, l6, l7, l8, l9, l10, l11⟩ := h6
  have hg : fr [1, 2, 5, 6, 49, 50] u w := (p5.sub (by decide)).tr (hf.sub (by decide))
  have e5 : w.1 5 = upd (u.1 5) 1 (nI (hcn m d)) := by rw [hf 5 (by decide)]; exact p3
  refine ⟨wh T (hzf d (hcn m d)), m, d, n', b', G, sh, ⟨⟨to.1, to.2.1, to.2.2.1, to.2.2.2.1, fun j _ => hzf_9 m d j, to.2.2.2.2.2⟩, so⟩, ⟨p2.keep hf (by decide), t2.keep hg (by decide), t3.keep hg (by decide), t4.keep hg (by decide), t5.keep hg (by decide), t6.keep hg (by decide), t7.keep hg (by decide), t8.keep hg (by decide), (congrFun e5 6).trans t9, (congrFun e5 10).trans t10, (congrFun e5 11).trans t11⟩, ⟨p1.kp hf (by decide), x3.kp hg (by decide)⟩, ⟨congrFun e5 1, by rw [hf 1 (by decide)]; exact p4, by rw [hg 3 (by decide)]; exact k3⟩, h5.keep hg (by decide), ⟨⟨hX, hm⟩, ⟨hY, l2.2⟩, fun _ _ => rfl, l4, l5, l6.keep hg (by decide), l7.keep hg (by decide), l8.keep hg (by decide), by rw [hg 48 (by decide)]; exact l9, l10, l11⟩, h7.keep hg (by decide) (by rw [hg 48 (by decide)]), fun s hs => ?_, by rw [hg 0 (by decide), hg 48 (by decide)]; exact h9⟩
  obtain ⟨q1, q2, q3⟩ := h8 s hs
  have hk : ∀ s, s < 4 → 38 + 2 * s ∉ [1, 2, 5, 6, 49, 50] ∧ 39 + 2 * s ∉ [1, 2, 5, 6, 49, 50] := by decide
  refine ⟨q1.kp (hg _ (hk s hs).1), q2.keep hg (by decide), fun j hj => ?_⟩
  rw [hg _ (hk s hs).2, hg 81 (by decide)]
  exact q3 j hj
def tbo (T : TD) (m : Nat) (d : Nat → Nat) : TD := (th T, (fun i => (sof (d (5 * i))).getD 0), (fun i => d (5 * i + 1) - 48), (fun i => d (5 * i + 2) - 97), (fun i => d (5 * i + 3) - 48), tek T, tew T, teb T, bcn m d, tne T, tlo T)
theorem tok_tbo {T : TD} (h : tok T) {m : Nat} {d : Nat → Nat} (hm : m ≤ 39) : tok (tbo T m d) := by
  refine ⟨bcn_8 hm, h.2.1, fun k hk => ?_, h.2.2.2.1, h.2.2.2.2.1, h.2.2.2.2.2⟩
  have hk' : k < bcn m d := hk
  unfold bcn at hk'
  split at hk'
  · rename_i e
    obtain ⟨q1, ⟨s, q2, q3⟩, q4, q5, q6⟩ := boat_ok e hk'
    refine ⟨?_, ?_, ?_, ?_⟩
    · show (sof (d (5 * k))).getD 0 ≤ 2
      rw [q2]
      exact q3
    · show d (5 * k + 1) - 48 < 8
      omega
    · show d (5 * k + 2) - 97 < 24
      omega
    · show d (5 * k + 3) - 48 ≤ 9
      omega
  · exact absurd hk' (Nat.not_lt_zero _)
/-- a change of the text of boats -/
theorem IV.t1 {T : TD} {n : Nat} {b : Nat → Nat} {n' : Nat} {b' : Nat → Nat} {G : SD} {sh : Nat → Nat × Nat × Nat} {u v w : ST} {m : Nat} {d : Nat → Nat} (h : IV T n b n' b' G sh u) (hP : PH1 u m d v) (hm : m ≤ 39) (hX : XM 0 n b w) (hY : XM 1 m d w) (hf : fr [49, 50] v w) : INV w := by
  obtain ⟨⟨to, so⟩, ⟨t1, t2, t3, t4, t5, t6, t7, t8, t9, t10, t11⟩, ⟨x1, x3⟩, ⟨k1, k2, k3⟩, h5, h6, h7, h8, h9⟩ := h
  obtain ⟨p1, p2, p3, p4, p5, p6⟩ := hP
  obtain ⟨l1, l2, l3, l4, l5, l6, l7, l8, l9, l10, l11⟩ := h6
  have hg : fr [3, 4, 5, 7, 8, 9, 10, 49, 50] u w := (p5.sub (by decide)).tr (hf.sub (by decide))
  have e5 : w.1 5 = upd (u.1 5) 6 (nI (bcn m d)) := by rw [hf 5 (by decide)]; exact p3
  refine ⟨tbo T m d, n, b, m, d, G, sh, ⟨tok_tbo to hm, so⟩, ⟨t1.keep hg (by decide), p2.1.keep hf (by decide), p2.2.1.keep hf (by decide), p2.2.2.1.keep hf (by decide), p2.2.2.2.keep hf (by decide), t6.keep hg (by decide), t7.keep hg (by decide), t8.keep hg (by decide), congrFun e5 6, (congrFun e5 10).trans t10, (congrFun e5 11).trans t11⟩, ⟨x1.kp hg (by decide), p1.kp hf (by decide)⟩, ⟨(congrFun e5 1).trans k1, by rw [hg 1 (by decide)]; exact k2, by rw [hf 3 (by decide)]; exact p4⟩, h5.keep hg (by decide), ⟨⟨hX, l1.2⟩, ⟨hY, hm⟩, l3, rfl, fun _ _ => ⟨rfl, rfl, rfl, rfl⟩, l6.keep hg (by decide), l7.keep hg (by decide), l8.keep hg (by decide), by rw [hg 48 (by decide)]; exact l9, l10, l11⟩, h7.keep hg (by decide) (by rw [hg 48 (by decide)]), fun s hs => ?_, by rw [hg 0 (by decide), hg 48 (by decide)]; exact h9⟩
  obtain ⟨q1, q2, q3⟩ := h8 s hs
  have hk : ∀ s, s < 4 → 38 + 2 * s ∉ [3, 4, 5, 7, 8, 9, 10, 49, 50] ∧ 39 + 2 * s ∉ [3, 4, 5, 7, 8, 9, 10, 49, 50] := by decide
  refine ⟨q1.kp (hg _ (hk s hs).1), q2.keep hg (by decide), fun j hj => ?_⟩
  rw [hg _ (hk s hs).2, hg 81 (by decide)]
  exact q3 j hj
/-- a change of the events -/
theorem IV.ev {T : TD} {n : Nat} {b : Nat → Nat} {n' : Nat} {b' : Nat → Nat} {G : SD} {sh : Nat → Nat × Nat × Nat} {u v w : ST} {ne : Nat} {ek ew eb : Nat → Nat} (h : IV T n b n' b' G sh u) (hT : TR 5 (wev T ne ek ew eb) v) (to' : tok (wev T ne ek ew eb)) (hf : fr [5, 11, 12, 13] u v) (h51 : v.1 5 1 = u.1 5 1) (hE : EM (wev T ne ek ew eb) w) (hg : fr [48, 57, 58, 59] v w) (h10 : f48 [10] v w) : INV w := by
  obtain ⟨⟨to, so⟩, ht, ⟨x1, x3⟩, ⟨k1, k2, k3⟩, h5, h6, h7, h8, h9⟩ := h
  obtain ⟨l1, l2, l3, l4, l5, l6, l7, l8, l9, l10, l11⟩ := h6
  obtain ⟨e1, e2, e3, e4, e5⟩ := hE
  have hw : fr [5, 11, 12, 13, 48, 57, 58, 59] u w := (hf.sub (by decide)).tr (hg.sub (by decide))
  have h48 : ∀ j, j ∉ [10] → w.1 48 j = u.1 48 j := fun j hj => (h10 j hj).trans (by rw [hf 48 (by decide)])
  refine ⟨wev T ne ek ew eb, n, b, n', b', G, sh, ⟨to', so⟩, hT.keep hg (by decide), ⟨x1.kp hw (by decide), x3.kp hw (by decide)⟩, ⟨by rw [hg 5 (by decide)]; exact h51.trans k1, by rw [hw 1 (by decide)]; exact k2, by rw [hw 3 (by decide)]; exact k3⟩, h5.keep hw (by decide), ⟨⟨l1.1.kp hw (by decide), l1.2⟩, ⟨l2.1.kp hw (by decide), l2.2⟩, l3, l4, l5, e1, e2, e3, e4, e5, l11⟩, h7.keep hw (by decide) (h48 32 (by decide)), fun s hs => ?_, by rw [hw 0 (by decide), h48 42 (by decide)]; exact h9⟩
  obtain ⟨q1, q2, q3⟩ := h8 s hs
  have hk : ∀ s, s < 4 → 38 + 2 * s ∉ [5, 11, 12, 13, 48, 57, 58, 59] ∧ 39 + 2 * s ∉ [5, 11, 12, 13, 48, 57, 58, 59] := by decide
  refine ⟨q1.kp (hw _ (hk s hs).1), q2.keep hw (by decide), fun j hj => ?_⟩
  rw [hw _ (hk s hs).2, hw 81 (by decide)]
  exact q3 j hj
theorem rdf_wev (f : Nat → Int32) : ∀ k i (T : TD), ∃ ne ek ew eb, (rdf f k i T).2 = wev T ne ek ew eb := by
  intro k
  induction k with
  | zero => intro i T; exact ⟨tne T, tek T, tew T, teb T, rfl⟩
  | succ k ih =>
    intro i T
    unfold rdf
    split
    · obtain ⟨a, c, d, e, h⟩ := ih (i + 1) (adv T (f (3 * i)) (f (3 * i + 1)) (f (3 * i + 2)))
      exact ⟨a, c, d, e, h⟩
    · exact ⟨tne T, tek T, tew T, teb T, rfl⟩
/-- a change of what was seen -/
theorem IV.sn {T : TD} {n : Nat} {b : Nat → Nat} {n' : Nat} {b' : Nat → Nat} {G G' : SD} {sh : Nat → Nat × Nat × Nat} {u v w : ST} (h : IV T n b n' b' G sh u) (so' : sok G') (hS : SR G' v) (hf : fr [32, 33, 34, 35] u v) (hM : SM G' w) (hg : fr [48, 74, 75, 76] v w) (h32 : f48 [32] v w) : INV w := by
  obtain ⟨⟨to, so⟩, ht, ⟨x1, x3⟩, ⟨k1, k2, k3⟩, h5, h6, h7, h8, h9⟩ := h
  have hw : fr [32, 33, 34, 35, 48, 74, 75, 76] u w := (hf.sub (by decide)).tr (hg.sub (by decide))
  have h48 : ∀ j, j ∉ [32] → w.1 48 j = u.1 48 j := fun j hj => (h32 j hj).trans (by rw [hf 48 (by decide)])
  refine ⟨T, n, b, n', b', G', sh, ⟨to, so'⟩, ht.keep hw (by decide), ⟨x1.kp hw (by decide), x3.kp hw (by decide)⟩, ⟨by rw [hw 5 (by decide)]; exact k1, by rw [hw 1 (by decide)]; exact k2, by rw [hw 3 (by decide)]; exact k3⟩, hS.keep hg (by decide), h6.keep hw (by decide) (h48 10 (by decide)), hM, fun s hs => ?_, by rw [hw 0 (by decide), h48 42 (by decide)]; exact h9⟩
  obtain ⟨q1, q2, q3⟩ := h8 s hs
  have hk : ∀ s, s < 4 → 38 + 2 * s ∉ [32, 33, 34, 35, 48, 74, 75, 76] ∧ 39 + 2 * s ∉ [32, 33, 34, 35, 48, 74, 75, 76] := by decide
  refine ⟨q1.kp (hw _ (hk s hs).1), q2.keep hw (by decide), fun j hj => ?_⟩
  rw [hw _ (hk s hs).2, hw 81 (by decide)]
  exact q3 j hj
abbrev SL : List Nat := [0, 38, 39, 40, 41, 42, 43, 44, 45, 78, 79, 80, 81, 82] ++ QL
/-- a change of sheets, of the finding -/
theorem IV.hs {T : TD} {n : Nat} {b : Nat → Nat} {n' : Nat} {b' : Nat → Nat} {G : SD} {sh sh' : Nat → Nat × Nat × Nat} {u w : ST} (h : IV T n b n' b' G sh u) (hf : fr SL u w) (hg : f48 (42 :: MF) u w) (hs : SHS sh' w) (he : w.1 0 10 = w.1 48 42) : INV w := by
  obtain ⟨h1, h2, h3, h4, h5, h6, h7, h8, h9⟩ := h
  exact ⟨T, n, b, n', b', G, sh', h1, h2.keep hf (by decide), ⟨h3.1.kp hf (by decide), h3.2.kp hf (by decide)⟩, ⟨by rw [hf 5 (by decide)]; exact h4.1, by rw [hf 1 (by decide)]; exact h4.2.1, by rw [hf 3 (by decide)]; exact h4.2.2⟩, h5.keep hf (by decide), h6.keep hf (by decide) (hg 10 (by decide)), h7.keep hf (by decide) (hg 32 (by decide)), hs, he⟩
/-- one sheet has changed -/
theorem SHS.one {sh : Nat → Nat × Nat × Nat} {u w : ST} (h : SHS sh u) (q lo fm sz : Nat) (hr : HR (38 + 2 * q) lo fm sz w) (hm : HM q lo fm sz w) (hi : ∀ j, j < 60 → w.1 (39 + 2 * q) j = w.1 81 (60 * q + j)) (h1 : ∀ s, s < 4 → s ≠ q → w.1 (38 + 2 * s) = u.1 (38 + 2 * s) ∧ w.1 (39 + 2 * s) = u.1 (39 + 2 * s)) (h2 : ∀ s, s < 4 → s ≠ q → w.1 78 s = u.1 78 s ∧ w.1 79 s = u.1 79 s ∧ w.1 80 s = u.1 80 s) (h3 : ∀ x, ¬ (60 * q ≤ x ∧ x < 60 * q + 60) → w.1 81 x = u.1 81 x) : SHS (fun s => if s = q then (lo, fm, sz) else sh s) w := by
  intro s hs
  by_cases e : s = q
  · subst e
    dsimp only
    rw [if_pos rfl]
    exact ⟨hr, hm, hi⟩
  · dsimp only
    rw [if_neg e]
    obtain ⟨g1, g2, g3⟩ := h s hs
    refine ⟨g1.kp (h1 s hs e).1, ⟨by rw [(h2 s hs e).1]; exact g2.1, by rw [(h2 s hs e).2.1]; exact g2.2.1, by rw [(h2 s hs e).2.2]; exact g2.2.2.1, g2.2.2.2⟩, fun j hj => ?_⟩
    rw [(h1 s hs e).2, h3 _ (by omega)]
    exact g3 j hj
/-- the finding alone -/
theorem IV.fi {T : TD} {n : Nat} {b : Nat → Nat} {n' : Nat} {b' : Nat → Nat} {G : SD} {sh : Nat → Nat × Nat × Nat} {u v w : ST} {x : Int32} (h : IV T n b n' b' G sh u) (hv : v = pt u 0 10 x) (hw : ∃ y, QM v y ∧ w = pt y 48 42 x) : INV w := by
  obtain ⟨y, hq, rfl⟩ := hw
  subst hv
  have hf : fr SL u (pt y 48 42 x) := ((fr.rf.pt (by decide)).tr (hq.1.sub (by decide))).pt (by decide)
  have hy : fr MQL u (pt y 48 42 x) ∨ True := Or.inr trivial
  refine h.hs (sh' := sh) hf ?_ ?_ ?_
  · intro j hj
    show upd (y.1 48) 42 x j = _
    unfold upd
    rw [if_neg (fun e => hj (by rw [e]; decide))]
    exact hq.2.1 j (fun e => hj (List.mem_cons_of_mem _ e))
  · have h8 := h.2.2.2.2.2.2.2.1
    intro s hs
    obtain ⟨q1, q2, q3⟩ := h8 s hs
    have hk : ∀ s, s < 4 → (38 + 2 * s ∉ MQL ∧ 39 + 2 * s ∉ MQL) ∧ (38 + 2 * s ≠ 0 ∧ 39 + 2 * s ≠ 0) ∧ (38 + 2 * s ≠ 48 ∧ 39 + 2 * s ≠ 48) := by decide
    obtain ⟨⟨a1, a2⟩, ⟨a3, a4⟩, ⟨a5, a6⟩⟩ := hk s hs
    have e1 : (pt y 48 42 x).1 (38 + 2 * s) = u.1 (38 + 2 * s) := (if_neg a5).trans ((hq.1 _ a1).trans (if_neg a3))
    have e2 : (pt y 48 42 x).1 (39 + 2 * s) = u.1 (39 + 2 * s) := (if_neg a6).trans ((hq.1 _ a2).trans (if_neg a4))
    have e3 : ∀ k, k ∈ [78, 79, 80, 81] → (pt y 48 42 x).1 k = u.1 k := by
      intro k hk
      have b1 : k ≠ 48 ∧ k ∉ MQL ∧ k ≠ 0 := (by decide : ∀ k ∈ [78, 79, 80, 81], k ≠ 48 ∧ k ∉ MQL ∧ k ≠ 0) k hk
      exact (if_neg b1.1).trans ((hq.1 _ b1.2.1).trans (if_neg b1.2.2))
    refine ⟨q1.kp e1, ⟨by rw [e3 78 (by decide)]; exact q2.1, by rw [e3 79 (by decide)]; exact q2.2.1, by rw [e3 80 (by decide)]; exact q2.2.2.1, q2.2.2.2⟩, fun j hj => ?_⟩
    rw [e2, e3 81 (by decide)]
    exact q3 j hj
  · have e : (pt y 48 42 x).1 0 = (pt u 0 10 x).1 0 := hq.1 0 (by decide)
    rw [e]
    rfl

/-! the model: what is told, read; as told -/
abbrev MQL : List Nat := [48, 51, 52, 53, 54, 55, 56, 60, 61, 62, 63, 64, 65, 66, 67, 68, 69, 70, 71, 72, 73, 77]
abbrev MF : List Nat := [2, 5, 14, 18, 24, 25]
/-- what a question leaves of the model -/
def QM (S u : ST) : Prop := fr MQL S u ∧ f48 MF S u ∧ u.2 = S.2
theorem QM.rf {S : ST} : QM S S := ⟨fr.rf, f48.rf, rfl⟩
theorem QM.tr {S u v : ST} (h : QM S u) (h2 : QM u v) : QM S v := ⟨h.1.tr h2.1, h.2.1.tr h2.2.1, h2.2.2.trans h.2.2⟩
theorem QM.of {S u : ST} {ks js : List Nat} (h1 : fr ks S u) (h2 : f48 js S u) (h3 : u.2 = S.2) (hk : ∀ k ∈ ks, k ∈ MQL) (hj : ∀ k ∈ js, k ∈ MF) : QM S u := ⟨h1.sub hk, h2.sub hj, h3⟩
theorem QM.cel {S u : ST} {k e : Nat} {v : Int32} (h : QM S u) (hk : k ∈ MQL) (h48 : k ≠ 48) : QM S (pt u k e v) := ⟨h.1.pt hk, fun j hj => by
  show (if 48 = k then _ else u.1 48) j = _
  rw [if_neg (fun z => h48 z.symm)]
  exact h.2.1 j hj, h.2.2⟩
theorem QM.fld {S u : ST} {e : Nat} {v : Int32} (h : QM S u) (he : e ∈ MF) : QM S (pt u 48 e v) := ⟨h.1.pt (by decide), h.2.1.put he, h.2.2⟩
/-- the telling that lasts, as the model keeps it: texts, events -/
def ML (T : TD) (n : Nat) (b : Nat → Nat) (n' : Nat) (b' : Nat → Nat) (u : ST) : Prop := (XM 0 n b u ∧ n ≤ 47) ∧ (XM 1 n' b' u ∧ n' ≤ 39) ∧ (∀ j, j < 64 → th T j = hzf b (hcn n b) j) ∧ tnb T = bcn n' b' ∧ (∀ k, k < tnb T → tso T k = (sof (b' (5 * k))).getD 0 ∧ tbu T k = b' (5 * k + 1) - 48 ∧ tla T k = b' (5 * k + 2) - 97 ∧ tst T k = b' (5 * k + 3) - 48) ∧ rh u 57 (tne T) (tek T) ∧ rh u 58 (tne T) (tew T) ∧ rh u 59 (tne T) (teb T) ∧ u.1 48 10 = nI (tne T) ∧ tne T ≤ 8 ∧ tlo T = 0
theorem ML.keep {T : TD} {n : Nat} {b : Nat → Nat} {n' : Nat} {b' : Nat → Nat} {u v : ST} {ks : List Nat} (h : ML T n b n' b' u) (hf : fr ks u v) (hk : 49 ∉ ks ∧ 50 ∉ ks ∧ 57 ∉ ks ∧ 58 ∉ ks ∧ 59 ∉ ks) (h10 : v.1 48 10 = u.1 48 10) : ML T n b n' b' v := by
  obtain ⟨h1, h2, h3, h4, h5, h6, h7, h8, h9, ha, hb⟩ := h
  exact ⟨⟨h1.1.keep hf ⟨hk.1, hk.2.1⟩, h1.2⟩, ⟨h2.1.keep hf ⟨hk.1, hk.2.1⟩, h2.2⟩, h3, h4, h5, h6.keep hf hk.2.2.1, h7.keep hf hk.2.2.2.1, h8.keep hf hk.2.2.2.2, h10.trans h9, ha, hb⟩
theorem ML.stay {T : TD} {n : Nat} {b : Nat → Nat} {n' : Nat} {b' : Nat → Nat} {u v : ST} (h : ML T n b n' b' u) (hq : QM u v) : ML T n b n' b' v := h.keep hq.1 (by decide) (hq.2.1 10 (by decide))
/-- what has been read -/
def RD (n : Nat) (b : Nat → Nat) (n' : Nat) (b' : Nat → Nat) (u : ST) : Prop := u.1 48 2 = nI (hcn n b) ∧ HW b (hcn n b) u ∧ u.1 48 5 = nI (bcn n' b') ∧ BW b' (bcn n' b') u
set_option maxHeartbeats 2000000 in
theorem m_faultOf0 (S : ST) (n : Nat) (b : Nat → Nat) (n' : Nat) (b' : Nat → Nat) (hX : XM 0 n b S) (hn : n ≤ 47) (hY : XM 1 n' b' S) (hn' : n' ≤ 39) : EX me_R_faultOf 4 [.ref 48, .int (nI 0)] S (fun r u => r = some (.int (spv (flt (okh b) 4 n))) ∧ RD n b n' b' u ∧ fr [48, 51, 53, 54, 55, 56] S u ∧ f48 [2, 5] S u ∧ u.2 = S.2) := by
  refine EX.of mok_R_faultOf (Nat.le_of_ble_eq_true rfl) ?_
  refine run_ok 2 (c' := (2, [(0, .ref 48), (1, .int (nI 0))], [.int (nI 0), .ref 48], S)) rfl ?_
  refine x_callV [.int (nI 0)] rfl cv_R_readsParts.1 lk_7_146 cv_R_readsParts.2.1 cv_R_readsParts.2.2.1 rfl cv_R_readsParts.2.2.2.1 rfl rfl (Nat.le_of_ble_eq_true rfl) (by decide) cv_R_readsParts.2.2.2.2 (m_readsParts0 S n b hX hn) ?_
  rintro r u ⟨hr, a1, a2, a3, a4, a5⟩
  rw [hr]
  clear hr r
  refine run_ok 3 (c' := (8, [(0, .ref 48), (1, .int (nI 0)), (2, .int (spv (flt (okh b) 4 n)))], [.int (nI 1), .ref 48], u)) rfl ?_
  refine x_callV [.int (nI 1)] rfl cv_R_readsParts.1 lk_7_146 cv_R_readsParts.2.1 cv_R_readsParts.2.2.1 rfl cv_R_readsParts.2.2.2.1 rfl rfl (Nat.le_of_ble_eq_true rfl) (by decide) cv_R_readsParts.2.2.2.2 (m_readsParts1 u n' b' (hY.keep a3 (by decide)) hn') ?_
  rintro r v ⟨hr, d1, d2, d3, d4, d5⟩
  rw [hr]
  clear hr r
  refine run_ok 2 (c' := (13, [(0, .ref 48), (1, .int (nI 0)), (2, .int (spv (flt (okh b) 4 n))), (3, .int (spv (flt (okb b') 5 n')))], [.int (nI 0)], v)) rfl ?_
  refine x_ifN_ne 20 rfl rfl (by omega) (fun hn => absurd hn (by decide)) (fun _ => ?_)
  refine run_ok 2 (c' := (21, [(0, .ref 48), (1, .int (nI 0)), (2, .int (spv (flt (okh b) 4 n))), (3, .int (spv (flt (okb b') 5 n')))], [.int (spv (flt (okh b) 4 n))], v)) rfl ?_
  exact x_ret (r := some (.int (spv (flt (okh b) 4 n)))) rfl rfl trivial ⟨rfl, ⟨(d4 2 (by decide)).trans a1, fun i hi => by rw [d3 51 (by decide)]; exact a2 i hi, d1, d2⟩, (a3.sub (by decide)).tr (d3.sub (by decide)), (a4.sub (by decide)).tr (d4.sub (by decide)), d5.trans a5⟩ rfl

set_option maxHeartbeats 2000000 in
theorem m_faultOf1 (S : ST) (n : Nat) (b : Nat → Nat) (n' : Nat) (b' : Nat → Nat) (hX : XM 0 n b S) (hn : n ≤ 47) (hY : XM 1 n' b' S) (hn' : n' ≤ 39) : EX me_R_faultOf 4 [.ref 48, .int (nI 1)] S (fun r u => r = some (.int (spv (flt (okb b') 5 n'))) ∧ RD n b n' b' u ∧ fr [48, 51, 53, 54, 55, 56] S u ∧ f48 [2, 5] S u ∧ u.2 = S.2) := by
  refine EX.of mok_R_faultOf (Nat.le_of_ble_eq_true rfl) ?_
  refine run_ok 2 (c' := (2, [(0, .ref 48), (1, .int (nI 1))], [.int (nI 0), .ref 48], S)) rfl ?_
  refine x_callV [.int (nI 0)] rfl cv_R_readsParts.1 lk_7_146 cv_R_readsParts.2.1 cv_R_readsParts.2.2.1 rfl cv_R_readsParts.2.2.2.1 rfl rfl (Nat.le_of_ble_eq_true rfl) (by decide) cv_R_readsParts.2.2.2.2 (m_readsParts0 S n b hX hn) ?_
  rintro r u ⟨hr, a1, a2, a3, a4, a5⟩
  rw [hr]
  clear hr r
  refine run_ok 3 (c' := (8, [(0, .ref 48), (1, .int (nI 1)), (2, .int (spv (flt (okh b) 4 n)))], [.int (nI 1), .ref 48], u)) rfl ?_
  refine x_callV [.int (nI 1)] rfl cv_R_readsParts.1 lk_7_146 cv_R_readsParts.2.1 cv_R_readsParts.2.2.1 rfl cv_R_readsParts.2.2.2.1 rfl rfl (Nat.le_of_ble_eq_true rfl) (by decide) cv_R_readsParts.2.2.2.2 (m_readsParts1 u n' b' (hY.keep a3 (by decide)) hn') ?_
  rintro r v ⟨hr, d1, d2, d3, d4, d5⟩
  rw [hr]
  clear hr r
  refine run_ok 2 (c' := (13, [(0, .ref 48), (1, .int (nI 1)), (2, .int (spv (flt (okh b) 4 n))), (3, .int (spv (flt (okb b') 5 n')))], [.int (nI 1)], v)) rfl ?_
  refine x_ifN_ne 20 rfl rfl (by omega) (fun _ => ?_) (fun hn => absurd hn (by decide))
  refine run_ok 1 (c' := (21, [(0, .ref 48), (1, .int (nI 1)), (2, .int (spv (flt (okh b) 4 n))), (3, .int (spv (flt (okb b') 5 n')))], [.int (spv (flt (okb b') 5 n'))], v)) rfl ?_
  exact x_ret (r := some (.int (spv (flt (okb b') 5 n')))) rfl rfl trivial ⟨rfl, ⟨(d4 2 (by decide)).trans a1, fun i hi => by rw [d3 51 (by decide)]; exact a2 i hi, d1, d2⟩, (a3.sub (by decide)).tr (d3.sub (by decide)), (a4.sub (by decide)).tr (d4.sub (by decide)), d5.trans a5⟩ rfl

set_option maxHeartbeats 2000000 in
theorem m_reads (S : ST) (n : Nat) (b : Nat → Nat) (n' : Nat) (b' : Nat → Nat) (hX : XM 0 n b S) (hn : n ≤ 47) (hY : XM 1 n' b' S) (hn' : n' ≤ 39) : EX me_R_reads 5 [.ref 48] S (fun r u => r = none ∧ rh u 52 64 (hzf b (hcn n b)) ∧ RD n b n' b' u ∧ fr [48, 51, 52, 53, 54, 55, 56] S u ∧ f48 [2, 5] S u ∧ u.2 = S.2) := by
  refine EX.of mok_R_reads (Nat.le_of_ble_eq_true rfl) ?_
  have H2 : ∀ i, i ≤ hcn n b → ∀ u : ST, rh u 52 64 (hzf b i) → RD n b n' b' u → fr [48, 51, 52, 53, 54, 55, 56] S u → f48 [2, 5] S u → u.2 = S.2 → BX me_R_reads 5 none (fun r u => r = none ∧ rh u 52 64 (hzf b (hcn n b)) ∧ RD n b n' b' u ∧ fr [48, 51, 52, 53, 54, 55, 56] S u ∧ f48 [2, 5] S u ∧ u.2 = S.2) (29, [(0, .ref 48), (1, .int (spv (flt (okh b) 4 n))), (2, .int (nI i))], [], u) := by
    refine loop_up (P := fun i => ∀ u : ST, rh u 52 64 (hzf b i) → RD n b n' b' u → fr [48, 51, 52, 53, 54, 55, 56] S u → f48 [2, 5] S u → u.2 = S.2 → BX me_R_reads 5 none (fun r u => r = none ∧ rh u 52 64 (hzf b (hcn n b)) ∧ RD n b n' b' u ∧ fr [48, 51, 52, 53, 54, 55, 56] S u ∧ f48 [2, 5] S u ∧ u.2 = S.2) (29, [(0, .ref 48), (1, .int (spv (flt (okh b) 4 n))), (2, .int (nI i))], [], u)) (hcn n b) ?_ ?_
    · intro u h52 hR hf h8 h2
      obtain ⟨r1, r2, r3, r4⟩ := id hR
      have hcl : hcn n b ≤ 12 := by unfold hcn; split <;> omega
      refine run_ok 3 (c' := (34, [(0, .ref 48), (1, .int (spv (flt (okh b) 4 n))), (2, .int (nI (hcn n b)))], [.int (u.1 48 2), .int (nI (hcn n b))], u)) rfl ?_
      refine x_top (v' := nI (hcn n b)) r1 ?_
      refine x_icmpN_ge 80 rfl rfl (by omega) (by omega) (fun h34 => ?_) (fun hn => absurd (Nat.le_refl _) hn)
      exact x_ret (r := none) rfl rfl trivial ⟨rfl, h52, hR, hf, h8, h2⟩ rfl
    · intro i hi ih u h52 hR hf h8 h2
      obtain ⟨r1, r2, r3, r4⟩ := id hR
      have hcl : hcn n b ≤ 12 := by unfold hcn; split <;> omega
      have hfl : flt (okh b) 4 n = none := by
        rcases h : flt (okh b) 4 n with _ | z
        · rfl
        · exfalso
          have : hcn n b = 0 := if_neg (by rw [h]; exact fun z => by cases z)
          omega
      have hce : hcn n b = (n + 1) / 4 := if_pos hfl
      have q := hate_ok hfl (show i < (n + 1) / 4 by omega)
      refine run_ok 3 (c' := (34, [(0, .ref 48), (1, .int (spv (flt (okh b) 4 n))), (2, .int (nI i))], [.int (u.1 48 2), .int (nI i)], u)) rfl ?_
      refine x_top (v' := nI (hcn n b)) r1 ?_
      refine x_icmpN_ge 80 rfl rfl (by omega) (by omega) (fun hn => absurd hn (show ¬ hcn n b ≤ i by omega)) (fun h34 => ?_)
      refine run_ok 8 (c' := (50, [(0, .ref 48), (1, .int (spv (flt (okh b) 4 n))), (2, .int (nI i))], [.int ((nI 3) * (nI i)), .ref 51, .int (nI 8), .ref 52], u)) rfl ?_
      refine x_top (v' := nI (3 * i)) (pk_mul _ _) ?_
      refine x_iaN (nI (b (4 * i) - 48)) rfl rfl (by decide) (by omega) (r2 i hi).1 ?_
      refine run_ok 1 (c' := (52, [(0, .ref 48), (1, .int (spv (flt (okh b) 4 n))), (2, .int (nI i))], [.int ((nI 8) * (nI (b (4 * i) - 48))), .ref 52], u)) rfl ?_
      refine x_top (v' := nI (8 * (b (4 * i) - 48))) (pk_mul _ _) ?_
      refine run_ok 5 (c' := (59, [(0, .ref 48), (1, .int (spv (flt (okh b) 4 n))), (2, .int (nI i))], [.int ((nI 3) * (nI i)), .ref 51, .int (nI (8 * (b (4 * i) - 48))), .ref 52], u)) rfl ?_
      refine x_top (v' := nI (3 * i)) (pk_mul _ _) ?_
      refine run_ok 2 (c' := (61, [(0, .ref 48), (1, .int (spv (flt (okh b) 4 n))), (2, .int (nI i))], [.int ((nI (3 * i)) + (nI 1)), .ref 51, .int (nI (8 * (b (4 * i) - 48))), .ref 52], u)) rfl ?_
      refine x_top (v' := nI ((3 * i) + 1)) (nI_add _ _) ?_
      refine x_iaN (nI (b (4 * i + 1) - 48)) rfl rfl (by decide) (by omega) (r2 i hi).2.1 ?_
      refine run_ok 1 (c' := (63, [(0, .ref 48), (1, .int (spv (flt (okh b) 4 n))), (2, .int (nI i))], [.int ((nI (8 * (b (4 * i) - 48))) + (nI (b (4 * i + 1) - 48))), .ref 52], u)) rfl ?_
      refine x_top (v' := nI ((8 * (b (4 * i) - 48)) + (b (4 * i + 1) - 48))) (nI_add _ _) ?_
      refine run_ok 5 (c' := (70, [(0, .ref 48), (1, .int (spv (flt (okh b) 4 n))), (2, .int (nI i))], [.int ((nI 3) * (nI i)), .ref 51, .int (nI ((8 * (b (4 * i) - 48)) + (b (4 * i + 1) - 48))), .ref 52], u)) rfl ?_
      refine x_top (v' := nI (3 * i)) (pk_mul _ _) ?_
      refine run_ok 2 (c' := (72, [(0, .ref 48), (1, .int (spv (flt (okh b) 4 n))), (2, .int (nI i))], [.int ((nI (3 * i)) + (nI 2)), .ref 51, .int (nI ((8 * (b (4 * i) - 48)) + (b (4 * i + 1) - 48))), .ref 52], u)) rfl ?_
      refine x_top (v' := nI ((3 * i) + 2)) (nI_add _ _) ?_
      refine x_iaN (nI (b (4 * i + 2) - 48)) rfl rfl (by decide) (by omega) (r2 i hi).2.2 ?_
      refine x_isN rfl rfl (by decide) (by omega) ?_
      refine run_ok 1 (c' := (77, [(0, .ref 48), (1, .int (spv (flt (okh b) 4 n))), (2, .int (nI i + nI 1))], [], (pt u 52 ((8 * (b (4 * i) - 48)) + (b (4 * i + 1) - 48)) (nI (b (4 * i + 2) - 48))))) rfl ?_
      rw [nI_add i 1]
      refine run_ok 1 (c' := (29, [(0, .ref 48), (1, .int (spv (flt (okh b) 4 n))), (2, .int (nI (i + 1)))], [], (pt u 52 ((8 * (b (4 * i) - 48)) + (b (4 * i + 1) - 48)) (nI (b (4 * i + 2) - 48))))) rfl ?_
      exact ih _ h52.put hR (hf.pt (by decide)) h8 h2
  have H1 : ∀ i, i ≤ 64 → ∀ u : ST, rh u 52 i (fun _ => 0) → RD n b n' b' u → fr [48, 51, 52, 53, 54, 55, 56] S u → f48 [2, 5] S u → u.2 = S.2 → BX me_R_reads 5 none (fun r u => r = none ∧ rh u 52 64 (hzf b (hcn n b)) ∧ RD n b n' b' u ∧ fr [48, 51, 52, 53, 54, 55, 56] S u ∧ f48 [2, 5] S u ∧ u.2 = S.2) (8, [(0, .ref 48), (1, .int (spv (flt (okh b) 4 n))), (2, .int (nI i))], [], u) := by
    refine loop_up (P := fun i => ∀ u : ST, rh u 52 i (fun _ => 0) → RD n b n' b' u → fr [48, 51, 52, 53, 54, 55, 56] S u → f48 [2, 5] S u → u.2 = S.2 → BX me_R_reads 5 none (fun r u => r = none ∧ rh u 52 64 (hzf b (hcn n b)) ∧ RD n b n' b' u ∧ fr [48, 51, 52, 53, 54, 55, 56] S u ∧ f48 [2, 5] S u ∧ u.2 = S.2) (8, [(0, .ref 48), (1, .int (spv (flt (okh b) 4 n))), (2, .int (nI i))], [], u)) (64) ?_ ?_
    · intro u h52 hR hf h8 h2
      refine run_ok 2 (c' := (11, [(0, .ref 48), (1, .int (spv (flt (okh b) 4 n))), (2, .int (nI 64))], [.int (nI 64), .int (nI 64)], u)) rfl ?_
      refine x_icmpN_ge 27 rfl rfl (by omega) (by omega) (fun h11 => ?_) (fun hn => absurd (Nat.le_refl _) hn)
      refine run_ok 2 (c' := (29, [(0, .ref 48), (1, .int (spv (flt (okh b) 4 n))), (2, .int (nI 0))], [], u)) rfl ?_
      exact H2 0 (Nat.zero_le _) u (fun j hj => h52 j hj) hR hf h8 h2
    · intro i hi ih u h52 hR hf h8 h2
      refine run_ok 2 (c' := (11, [(0, .ref 48), (1, .int (spv (flt (okh b) 4 n))), (2, .int (nI i))], [.int (nI 64), .int (nI i)], u)) rfl ?_
      refine x_icmpN_ge 27 rfl rfl (by omega) (by omega) (fun hn => absurd hn (show ¬ 64 ≤ i by omega)) (fun h11 => ?_)
      refine run_ok 4 (c' := (20, [(0, .ref 48), (1, .int (spv (flt (okh b) 4 n))), (2, .int (nI i))], [.int (nI 0), .int (nI i), .ref 52], u)) rfl ?_
      refine x_isN rfl rfl (by decide) (by omega) ?_
      refine run_ok 1 (c' := (24, [(0, .ref 48), (1, .int (spv (flt (okh b) 4 n))), (2, .int (nI i + nI 1))], [], (pt u 52 i (nI 0)))) rfl ?_
      rw [nI_add i 1]
      refine run_ok 1 (c' := (8, [(0, .ref 48), (1, .int (spv (flt (okh b) 4 n))), (2, .int (nI (i + 1)))], [], (pt u 52 i (nI 0)))) rfl ?_
      exact ih _ (rh_next h52 rfl) hR (hf.pt (by decide)) h8 h2
  refine run_ok 2 (c' := (2, [(0, .ref 48)], [.int (nI 0), .ref 48], S)) rfl ?_
  refine x_callV [.int (nI 0)] rfl cv_R_faultOf.1 lk_7_150 cv_R_faultOf.2.1 cv_R_faultOf.2.2.1 rfl cv_R_faultOf.2.2.2.1 rfl rfl (Nat.le_of_ble_eq_true rfl) (by decide) cv_R_faultOf.2.2.2.2 (m_faultOf0 S n b n' b' hX hn hY hn') ?_
  rintro r u ⟨hr, a1, a2, a3, a4⟩
  rw [hr]
  clear hr r
  refine run_ok 3 (c' := (8, [(0, .ref 48), (1, .int (spv (flt (okh b) 4 n))), (2, .int (nI 0))], [], u)) rfl ?_
  exact H1 0 (by omega) u (fun j hj => absurd hj (Nat.not_lt_zero _)) a1 (a2.sub (by decide)) a3 a4

/-- read, as numbers of the telling -/
def MR (T : TD) (n : Nat) (b : Nat → Nat) (u : ST) : Prop := rh u 52 64 (th T) ∧ rh u 53 (tnb T) (tso T) ∧ rh u 54 (tnb T) (tbu T) ∧ rh u 55 (tnb T) (tla T) ∧ rh u 56 (tnb T) (tst T) ∧ u.1 48 5 = nI (tnb T) ∧ u.1 48 2 = nI (hcn n b)
theorem MR.of {T : TD} {n : Nat} {b : Nat → Nat} {n' : Nat} {b' : Nat → Nat} {S u : ST} (hL : ML T n b n' b' S) (h52 : rh u 52 64 (hzf b (hcn n b))) (hR : RD n b n' b' u) : MR T n b u := by
  obtain ⟨h1, h2, h3, h4, h5, h6⟩ := hL
  obtain ⟨r1, r2, r3, r4⟩ := hR
  rw [← h4] at r3 r4
  exact ⟨h52.cg h3, r4.1.cg (fun k hk => (h5 k hk).1), r4.2.1.cg (fun k hk => (h5 k hk).2.1), r4.2.2.1.cg (fun k hk => (h5 k hk).2.2.1), r4.2.2.2.cg (fun k hk => (h5 k hk).2.2.2), r3, r1⟩
set_option maxHeartbeats 2000000 in
theorem m_asTold (S : ST) (T : TD) (n : Nat) (b : Nat → Nat) (n' : Nat) (b' : Nat → Nat) (hL : ML T n b n' b' S) (hto : tok T) : EX me_R_asTold 6 [.ref 48] S (fun r u => r = none ∧ MT T u ∧ MR T n b u ∧ QM S u) := by
  refine EX.of mok_R_asTold (Nat.le_of_ble_eq_true rfl) ?_
  have H : ∀ i, i ≤ tne T → ∀ u : ST, MR T n b u → ML T n b n' b' u → rh u 60 i (tek T) → rh u 61 i (tew T) → rh u 62 i (teb T) → u.1 48 14 = nI (tne T) → QM S u → BX me_R_asTold 6 none (fun r u => r = none ∧ MT T u ∧ MR T n b u ∧ QM S u) (14, [(0, .ref 48), (1, .int (nI i))], [], u) := by
    refine loop_up (P := fun i => ∀ u : ST, MR T n b u → ML T n b n' b' u → rh u 60 i (tek T) → rh u 61 i (tew T) → rh u 62 i (teb T) → u.1 48 14 = nI (tne T) → QM S u → BX me_R_asTold 6 none (fun r u => r = none ∧ MT T u ∧ MR T n b u ∧ QM S u) (14, [(0, .ref 48), (1, .int (nI i))], [], u)) (tne T) ?_ ?_
    · intro u hM hLu a1 a2 a3 a4 hq
      obtain ⟨l1, l2, l3, l4, l5, l6, l7, l8, l9, l10, l11⟩ := id hLu
      refine run_ok 3 (c' := (19, [(0, .ref 48), (1, .int (nI (tne T)))], [.int (u.1 48 10), .int (nI (tne T))], u)) rfl ?_
      refine x_top (v' := nI (tne T)) l9 ?_
      refine x_icmpN_ge 64 rfl rfl (by omega) (by omega) (fun h19 => ?_) (fun hn => absurd (Nat.le_refl _) hn)
      refine run_ok 3 (c' := (69, [(0, .ref 48), (1, .int (nI (tne T)))], [], (pt u 48 18 (nI 0)))) rfl ?_
      exact x_ret (r := none) rfl rfl trivial ⟨rfl, ⟨hM.1, hM.2.1, hM.2.2.1, hM.2.2.2.1, hM.2.2.2.2.1, a1, a2, a3, hM.2.2.2.2.2.1, a4, by rw [l11]; rfl⟩, hM, hq.fld (by decide)⟩ rfl
    · intro i hi ih u hM hLu a1 a2 a3 a4 hq
      obtain ⟨l1, l2, l3, l4, l5, l6, l7, l8, l9, l10, l11⟩ := id hLu
      refine run_ok 3 (c' := (19, [(0, .ref 48), (1, .int (nI i))], [.int (u.1 48 10), .int (nI i)], u)) rfl ?_
      refine x_top (v' := nI (tne T)) l9 ?_
      refine x_icmpN_ge 64 rfl rfl (by omega) (by omega) (fun hn => absurd hn (show ¬ tne T ≤ i by omega)) (fun h19 => ?_)
      refine run_ok 6 (c' := (32, [(0, .ref 48), (1, .int (nI i))], [.int (nI i), .ref 57, .int (nI i), .ref 60], u)) rfl ?_
      refine x_iaN (nI (tek T i)) rfl rfl (by decide) (by omega) (l6 i (by omega)) ?_
      refine x_isN rfl rfl (by decide) (by omega) ?_
      refine run_ok 6 (c' := (44, [(0, .ref 48), (1, .int (nI i))], [.int (nI i), .ref 58, .int (nI i), .ref 61], (pt u 60 i (nI (tek T i))))) rfl ?_
      refine x_iaN (nI (tew T i)) rfl rfl (by decide) (by omega) (l7 i (by omega)) ?_
      refine x_isN rfl rfl (by decide) (by omega) ?_
      refine run_ok 6 (c' := (56, [(0, .ref 48), (1, .int (nI i))], [.int (nI i), .ref 59, .int (nI i), .ref 62], (pt (pt u 60 i (nI (tek T i))) 61 i (nI (tew T i))))) rfl ?_
      refine x_iaN (nI (teb T i)) rfl rfl (by decide) (by omega) (l8 i (by omega)) ?_
      refine x_isN rfl rfl (by decide) (by omega) ?_
      refine run_ok 1 (c' := (61, [(0, .ref 48), (1, .int (nI i + nI 1))], [], (pt (pt (pt u 60 i (nI (tek T i))) 61 i (nI (tew T i))) 62 i (nI (teb T i))))) rfl ?_
      rw [nI_add i 1]
      refine run_ok 1 (c' := (14, [(0, .ref 48), (1, .int (nI (i + 1)))], [], (pt (pt (pt u 60 i (nI (tek T i))) 61 i (nI (tew T i))) 62 i (nI (teb T i))))) rfl ?_
      exact ih _ hM (hLu.keep ((((fr.rf (ks := [60, 61, 62])).pt (by decide)).pt (by decide)).pt (by decide)) (by decide) rfl) (rh_next a1 rfl) (rh_next a2 rfl) (rh_next a3 rfl) a4 (((hq.cel (by decide) (by decide)).cel (by decide) (by decide)).cel (by decide) (by decide))
  refine run_ok 1 (c' := (1, [(0, .ref 48)], [.ref 48], S)) rfl ?_
  refine x_callV [] rfl cv_R_reads.1 lk_7_153 cv_R_reads.2.1 cv_R_reads.2.2.1 rfl cv_R_reads.2.2.2.1 rfl rfl (Nat.le_of_ble_eq_true rfl) (by decide) cv_R_reads.2.2.2.2 (m_reads S n b n' b' hL.1.1 hL.1.2 hL.2.1.1 hL.2.1.2) ?_
  rintro r u ⟨hr, a1, a2, a3, a4, a5⟩
  rw [hr]
  clear hr r
  have hq : QM S u := QM.of a3 a4 a5 (by decide) (by decide)
  have hLu : ML T n b n' b' u := hL.stay hq
  have hM : MR T n b u := MR.of hL a1 a2
  obtain ⟨l1, l2, l3, l4, l5, l6, l7, l8, l9, l10, l11⟩ := id hLu
  refine run_ok 3 (c' := (9, [(0, .ref 48)], [.int (u.1 48 10), .ref 48], u)) rfl ?_
  refine x_top (v' := nI (tne T)) l9 ?_
  refine run_ok 3 (c' := (14, [(0, .ref 48), (1, .int (nI 0))], [], (pt u 48 14 (nI (tne T))))) rfl ?_
  exact H 0 (Nat.zero_le _) _ hM (hLu.keep (fr.rf.pt (ks := [48]) (by decide)) (by decide) rfl) (fun j hj => absurd hj (Nat.not_lt_zero _)) (fun j hj => absurd hj (Nat.not_lt_zero _)) (fun j hj => absurd hj (Nat.not_lt_zero _)) rfl (hq.fld (by decide))

set_option maxHeartbeats 2000000 in
theorem m_runsTold (S : ST) (T : TD) (n : Nat) (b : Nat → Nat) (n' : Nat) (b' : Nat → Nat) (hL : ML T n b n' b' S) (hto : tok T) : EX me_R_runsTold 7 [.ref 48] S (fun r u => r = none ∧ MT T u ∧ MV T (vo T 24) u ∧ RC T 24 u ∧ u.1 48 2 = nI (hcn n b) ∧ QM S u) := by
  refine EX.of mok_R_runsTold (Nat.le_of_ble_eq_true rfl) ?_
  refine run_ok 1 (c' := (1, [(0, .ref 48)], [.ref 48], S)) rfl ?_
  refine x_callV [] rfl cv_R_asTold.1 lk_7_220 cv_R_asTold.2.1 cv_R_asTold.2.2.1 rfl cv_R_asTold.2.2.2.1 rfl rfl (Nat.le_of_ble_eq_true rfl) (by decide) cv_R_asTold.2.2.2.2 (m_asTold S T n b n' b' hL hto) ?_
  rintro r u ⟨hr, hTu, hRu, hqu⟩
  rw [hr]
  clear hr r
  refine run_ok 1 (c' := (5, [(0, .ref 48)], [.ref 48], u)) rfl ?_
  refine x_callV [] rfl cv_R_runs.1 lk_7_223 cv_R_runs.2.1 cv_R_runs.2.2.1 rfl cv_R_runs.2.2.2.1 rfl rfl (Nat.le_of_ble_eq_true rfl) (by decide) cv_R_runs.2.2.2.2 (m_runs u T hTu hto) ?_
  rintro r v ⟨hr, hMv, hCv, hTv, hfv, h8v, h2v⟩
  rw [hr]
  clear hr r
  have hqv : QM S v := hqu.tr (QM.of hfv h8v h2v (by decide) (by decide))
  exact x_ret (r := none) rfl rfl trivial ⟨rfl, hTv, hMv, hCv, (h8v 2 (by decide)).trans hRu.2.2.2.2.2.2, hqv⟩ rfl


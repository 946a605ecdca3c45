/-! rows of names, sightings, the best, what a telling does -/
theorem fa_and (a b : Nat) : nI a &&& nI b = nI (a &&& b) := by
  apply Int32.toBitVec_inj.1
  show BitVec.ofNat 32 a &&& BitVec.ofNat 32 b = BitVec.ofNat 32 (a &&& b)
  apply BitVec.eq_of_getLsbD_eq
  intro i hi
  simp [hi]
theorem fa_or (a b : Nat) : nI a ||| nI b = nI (a ||| b) := by
  apply Int32.toBitVec_inj.1
  show BitVec.ofNat 32 a ||| BitVec.ofNat 32 b = BitVec.ofNat 32 (a ||| b)
  apply BitVec.eq_of_getLsbD_eq
  intro i hi
  simp [hi]
theorem or_up {a b k : Nat} (ha : a < 2 ^ k) (hk : k < 32) (hb : b * 2 ^ k < 2 ^ 32) : nI a ||| (nI b <<< (nI k &&& 31)) = nI (a + b * 2 ^ k) := by
  rw [pk_shlN _ k (sl32 k hk) hb, fa_or]
  congr 1
  rw [Nat.or_comm, Nat.mul_comm b, ← Nat.two_pow_add_eq_or_of_lt ha]
  omega
theorem p16 (k : Nat) : 16 ^ k = 2 ^ (4 * k) := by rw [show (16 : Nat) = 2 ^ 4 from rfl, ← Nat.pow_mul]
theorem nro_lt {f : Nat → Nat} : ∀ {n : Nat}, (∀ k, k < n → f k < 16) → nro f n < 16 ^ n := by
  intro n
  induction n with
  | zero => intro _; exact Nat.one_pos
  | succ n ih =>
    intro h
    have h1 := ih (fun k hk => h k (by omega))
    have h2 := h n (by omega)
    have h3 : f n * 16 ^ n ≤ 15 * 16 ^ n := Nat.mul_le_mul_right _ (by omega)
    show nro f n + f n * 16 ^ n < 16 ^ (n + 1)
    rw [Nat.pow_succ]
    omega
theorem p16_8 {i : Nat} (h : i < 8) : 16 * 16 ^ i ≤ 4294967296 := by
  have : 16 ^ (i + 1) ≤ 16 ^ 8 := Nat.pow_le_pow_right (by decide) (by omega)
  rw [Nat.pow_succ] at this
  omega
theorem nro_or {a b i : Nat} (ha : a < 16 ^ i) (hb : b < 16) (hi : i < 8) : nI a ||| (nI b <<< (nI (4 * i) &&& 31)) = nI (a + b * 16 ^ i) := by
  rw [p16] at ha ⊢
  refine or_up ha (by omega) ?_
  rw [← p16]
  have h1 := p16_8 hi
  have h2 : b * 16 ^ i ≤ 15 * 16 ^ i := Nat.mul_le_mul_right _ (by omega)
  have h3 : 0 < 16 ^ i := Nat.pos_of_ne_zero (by simp)
  omega
theorem nmb_le {T : TD} {V : VS} {w k : Nat} (h : vnm V k ≤ 8) : nmb T V w k ≤ 8 := by
  unfold nmb
  split <;> omega
/-- what was seen: how many; week, boat, person -/
abbrev SD : Type := Nat × (Nat → Nat) × (Nat → Nat) × (Nat → Nat)
def sok (G : SD) : Prop := G.1 ≤ 8 ∧ ∀ i, i < G.1 → G.2.1 i < 24 ∧ G.2.2.1 i < 8 ∧ G.2.2.2 i ≤ 8
def SR (G : SD) (u : ST) : Prop := u.1 32 3 = nI G.1 ∧ rh u 33 G.1 G.2.1 ∧ rh u 34 G.1 G.2.2.1 ∧ rh u 35 G.1 G.2.2.2
def fitb (T : TD) (V : VS) (G : SD) : Nat → Bool
  | 0 => true
  | n + 1 => fitb T V G n && decide (G.2.2.1 n < tnb T ∧ nmb T V (G.2.1 n) (G.2.2.1 n) = G.2.2.2 n)
theorem fitb_no {T : TD} {V : VS} {G : SD} {i : Nat} (h : ¬ (G.2.2.1 i < tnb T ∧ nmb T V (G.2.1 i) (G.2.2.1 i) = G.2.2.2 i)) : ∀ n, i < n → fitb T V G n = false := by
  intro n
  induction n with
  | zero => intro h; omega
  | succ n ih =>
    intro hn
    unfold fitb
    by_cases e : i = n
    · subst e
      rw [decide_eq_false h, Bool.and_false]
    · rw [ih (by omega), Bool.false_and]
theorem fitb_yes {T : TD} {V : VS} {G : SD} {i : Nat} (h0 : fitb T V G i = true) (h : G.2.2.1 i < tnb T ∧ nmb T V (G.2.1 i) (G.2.2.1 i) = G.2.2.2 i) : fitb T V G (i + 1) = true := by
  unfold fitb
  rw [h0, decide_eq_true h]
  rfl
theorem SR.keep {G : SD} {u v : ST} {ks : List Nat} (h : SR G u) (hf : fr ks u v) (hk : ∀ i, i < 4 → 32 + i ∉ ks) : SR G v :=
  ⟨by rw [hf 32 (hk 0 (by omega))]; exact h.1, h.2.1.keep hf (hk 1 (by omega)), h.2.2.1.keep hf (hk 2 (by omega)), h.2.2.2.keep hf (hk 3 (by omega))⟩
set_option maxHeartbeats 2000000 in
theorem c_nameRow5 (S : ST) (T : TD) (V : VS) (ls : Nat → Nat) (hT : TR 5 T S) (hto : tok T) (hC : CR 5 T V ls S) (hV : vk T V) : EX me_V_nameRow 1 [.ref 23] S (fun r u => r = some (.int (nI (nro (nmb T V 23) (tnb T)))) ∧ u = S) := by
  refine EX.of mok_V_nameRow (Nat.le_of_ble_eq_true rfl) ?_
  obtain ⟨n8, n9, hbt, het, hht, hlo⟩ := id hto
  obtain ⟨t1, t2, t3, t4, t5, t6, t7, t8, t9, t10, t11⟩ := id hT
  obtain ⟨h24, h25, h26, h27, h28, h29, hsr, g9, g10, g11, htl⟩ := id hC
  obtain ⟨hh9, hv3, hb9, hfw, hfb⟩ := id hV
  have H : ∀ i, i ≤ tnb T → BX me_V_nameRow 1 none (fun r u => r = some (.int (nI (nro (nmb T V 23) (tnb T)))) ∧ u = S) (4, [(0, .ref 23), (1, .int (nI (nro (nmb T V 23) i))), (2, .int (nI i))], [], S) := by
    refine loop_up (P := fun i => BX me_V_nameRow 1 none (fun r u => r = some (.int (nI (nro (nmb T V 23) (tnb T)))) ∧ u = S) (4, [(0, .ref 23), (1, .int (nI (nro (nmb T V 23) i))), (2, .int (nI i))], [], S)) (tnb T) ?_ ?_
    · skip
      refine run_ok 2 (c' := (6, [(0, .ref 23), (1, .int (nI (nro (nmb T V 23) (tnb T)))), (2, .int (nI (tnb T)))], [.ref 23, .int (nI (tnb T))], S)) rfl ?_
      refine x_gett (t := 5) rfl rfl htl ?_
      refine run_ok 1 (c' := (12, [(0, .ref 23), (1, .int (nI (nro (nmb T V 23) (tnb T)))), (2, .int (nI (tnb T)))], [.int (S.1 5 6), .int (nI (tnb T))], S)) rfl ?_
      refine x_top (v' := nI (tnb T)) t9 ?_
      refine x_icmpN_ge 35 rfl rfl (by omega) (by omega) (fun h12 => ?_) (fun hn => absurd (Nat.le_refl _) hn)
      refine run_ok 1 (c' := (36, [(0, .ref 23), (1, .int (nI (nro (nmb T V 23) (tnb T)))), (2, .int (nI (tnb T)))], [.int (nI (nro (nmb T V 23) (tnb T)))], S)) rfl ?_
      exact x_ret (r := some (.int (nI (nro (nmb T V 23) (tnb T))))) rfl rfl trivial ⟨rfl, rfl⟩ rfl
    · intro i hi ih
      have q1 := nmb_le (T := T) (w := 23) (hv3 i (by omega)).2.1
      refine run_ok 2 (c' := (6, [(0, .ref 23), (1, .int (nI (nro (nmb T V 23) i))), (2, .int (nI i))], [.ref 23, .int (nI i)], S)) rfl ?_
      refine x_gett (t := 5) rfl rfl htl ?_
      refine run_ok 1 (c' := (12, [(0, .ref 23), (1, .int (nI (nro (nmb T V 23) i))), (2, .int (nI i))], [.int (S.1 5 6), .int (nI i)], S)) rfl ?_
      refine x_top (v' := nI (tnb T)) t9 ?_
      refine x_icmpN_ge 35 rfl rfl (by omega) (by omega) (fun hn => absurd hn (show ¬ tnb T ≤ i by omega)) (fun h12 => ?_)
      refine run_ok 4 (c' := (20, [(0, .ref 23), (1, .int (nI (nro (nmb T V 23) i))), (2, .int (nI i))], [.int (nI i), .int (nI 23), .ref 23, .int (nI (nro (nmb T V 23) i))], S)) rfl ?_
      refine x_callV [.int (nI 23), .int (nI i)] rfl cv_V_nameBehind.1 lk_5_131 cv_V_nameBehind.2.1 cv_V_nameBehind.2.2.1 rfl cv_V_nameBehind.2.2.2.1 rfl rfl (Nat.le_of_ble_eq_true rfl) (by decide) cv_V_nameBehind.2.2.2.2 (c_nameBehind5 S T V ls hT hto hC hV 23 i hi (by omega)) ?_
      rintro r u ⟨hr, hu⟩
      rw [hr, hu]
      clear hr hu r u
      refine run_ok 3 (c' := (26, [(0, .ref 23), (1, .int (nI (nro (nmb T V 23) i))), (2, .int (nI i))], [.int ((nI 4) * (nI i)), .int (nI (nmb T V 23 i)), .int (nI (nro (nmb T V 23) i))], S)) rfl ?_
      refine x_top (v' := nI (4 * i)) (pk_mul _ _) ?_
      refine run_ok 2 (c' := (28, [(0, .ref 23), (1, .int (nI (nro (nmb T V 23) i))), (2, .int (nI i))], [.int ((nI (nro (nmb T V 23) i)) ||| ((nI (nmb T V 23 i)) <<< ((nI (4 * i)) &&& 31)))], S)) rfl ?_
      refine x_top (v' := nI (nro (nmb T V 23) i + nmb T V 23 i * 16 ^ i)) (nro_or (nro_lt (fun k hk => by have := nmb_le (T := T) (w := 23) (hv3 k (by omega)).2.1; omega)) (by omega) (by omega)) ?_
      refine run_ok 2 (c' := (32, [(0, .ref 23), (1, .int (nI (nro (nmb T V 23) i + nmb T V 23 i * 16 ^ i))), (2, .int (nI i + nI 1))], [], S)) rfl ?_
      rw [nI_add i 1]
      refine run_ok 1 (c' := (4, [(0, .ref 23), (1, .int (nI (nro (nmb T V 23) i + nmb T V 23 i * 16 ^ i))), (2, .int (nI (i + 1)))], [], S)) rfl ?_
      rw [show nro (nmb T V 23) i + nmb T V 23 i * 16 ^ i = nro (nmb T V 23) (i + 1) from rfl]
      exact ih
  refine run_ok 4 (c' := (4, [(0, .ref 23), (1, .int (nI 0)), (2, .int (nI 0))], [], S)) rfl ?_
  exact H 0 (Nat.zero_le _)

set_option maxHeartbeats 2000000 in
theorem c_nameRow14 (S : ST) (T : TD) (V : VS) (ls : Nat → Nat) (hT : TR 14 T S) (hto : tok T) (hC : CR 14 T V ls S) (hV : vk T V) : EX me_V_nameRow 1 [.ref 23] S (fun r u => r = some (.int (nI (nro (nmb T V 23) (tnb T)))) ∧ u = S) := by
  refine EX.of mok_V_nameRow (Nat.le_of_ble_eq_true rfl) ?_
  obtain ⟨n8, n9, hbt, het, hht, hlo⟩ := id hto
  obtain ⟨t1, t2, t3, t4, t5, t6, t7, t8, t9, t10, t11⟩ := id hT
  obtain ⟨h24, h25, h26, h27, h28, h29, hsr, g9, g10, g11, htl⟩ := id hC
  obtain ⟨hh9, hv3, hb9, hfw, hfb⟩ := id hV
  have H : ∀ i, i ≤ tnb T → BX me_V_nameRow 1 none (fun r u => r = some (.int (nI (nro (nmb T V 23) (tnb T)))) ∧ u = S) (4, [(0, .ref 23), (1, .int (nI (nro (nmb T V 23) i))), (2, .int (nI i))], [], S) := by
    refine loop_up (P := fun i => BX me_V_nameRow 1 none (fun r u => r = some (.int (nI (nro (nmb T V 23) (tnb T)))) ∧ u = S) (4, [(0, .ref 23), (1, .int (nI (nro (nmb T V 23) i))), (2, .int (nI i))], [], S)) (tnb T) ?_ ?_
    · skip
      refine run_ok 2 (c' := (6, [(0, .ref 23), (1, .int (nI (nro (nmb T V 23) (tnb T)))), (2, .int (nI (tnb T)))], [.ref 23, .int (nI (tnb T))], S)) rfl ?_
      refine x_gett (t := 14) rfl rfl htl ?_
      refine run_ok 1 (c' := (12, [(0, .ref 23), (1, .int (nI (nro (nmb T V 23) (tnb T)))), (2, .int (nI (tnb T)))], [.int (S.1 14 6), .int (nI (tnb T))], S)) rfl ?_
      refine x_top (v' := nI (tnb T)) t9 ?_
      refine x_icmpN_ge 35 rfl rfl (by omega) (by omega) (fun h12 => ?_) (fun hn => absurd (Nat.le_refl _) hn)
      refine run_ok 1 (c' := (36, [(0, .ref 23), (1, .int (nI (nro (nmb T V 23) (tnb T)))), (2, .int (nI (tnb T)))], [.int (nI (nro (nmb T V 23) (tnb T)))], S)) rfl ?_
      exact x_ret (r := some (.int (nI (nro (nmb T V 23) (tnb T))))) rfl rfl trivial ⟨rfl, rfl⟩ rfl
    · intro i hi ih
      have q1 := nmb_le (T := T) (w := 23) (hv3 i (by omega)).2.1
      refine run_ok 2 (c' := (6, [(0, .ref 23), (1, .int (nI (nro (nmb T V 23) i))), (2, .int (nI i))], [.ref 23, .int (nI i)], S)) rfl ?_
      refine x_gett (t := 14) rfl rfl htl ?_
      refine run_ok 1 (c' := (12, [(0, .ref 23), (1, .int (nI (nro (nmb T V 23) i))), (2, .int (nI i))], [.int (S.1 14 6), .int (nI i)], S)) rfl ?_
      refine x_top (v' := nI (tnb T)) t9 ?_
      refine x_icmpN_ge 35 rfl rfl (by omega) (by omega) (fun hn => absurd hn (show ¬ tnb T ≤ i by omega)) (fun h12 => ?_)
      refine run_ok 4 (c' := (20, [(0, .ref 23), (1, .int (nI (nro (nmb T V 23) i))), (2, .int (nI i))], [.int (nI i), .int (nI 23), .ref 23, .int (nI (nro (nmb T V 23) i))], S)) rfl ?_
      refine x_callV [.int (nI 23), .int (nI i)] rfl cv_V_nameBehind.1 lk_5_131 cv_V_nameBehind.2.1 cv_V_nameBehind.2.2.1 rfl cv_V_nameBehind.2.2.2.1 rfl rfl (Nat.le_of_ble_eq_true rfl) (by decide) cv_V_nameBehind.2.2.2.2 (c_nameBehind14 S T V ls hT hto hC hV 23 i hi (by omega)) ?_
      rintro r u ⟨hr, hu⟩
      rw [hr, hu]
      clear hr hu r u
      refine run_ok 3 (c' := (26, [(0, .ref 23), (1, .int (nI (nro (nmb T V 23) i))), (2, .int (nI i))], [.int ((nI 4) * (nI i)), .int (nI (nmb T V 23 i)), .int (nI (nro (nmb T V 23) i))], S)) rfl ?_
      refine x_top (v' := nI (4 * i)) (pk_mul _ _) ?_
      refine run_ok 2 (c' := (28, [(0, .ref 23), (1, .int (nI (nro (nmb T V 23) i))), (2, .int (nI i))], [.int ((nI (nro (nmb T V 23) i)) ||| ((nI (nmb T V 23 i)) <<< ((nI (4 * i)) &&& 31)))], S)) rfl ?_
      refine x_top (v' := nI (nro (nmb T V 23) i + nmb T V 23 i * 16 ^ i)) (nro_or (nro_lt (fun k hk => by have := nmb_le (T := T) (w := 23) (hv3 k (by omega)).2.1; omega)) (by omega) (by omega)) ?_
      refine run_ok 2 (c' := (32, [(0, .ref 23), (1, .int (nI (nro (nmb T V 23) i + nmb T V 23 i * 16 ^ i))), (2, .int (nI i + nI 1))], [], S)) rfl ?_
      rw [nI_add i 1]
      refine run_ok 1 (c' := (4, [(0, .ref 23), (1, .int (nI (nro (nmb T V 23) i + nmb T V 23 i * 16 ^ i))), (2, .int (nI (i + 1)))], [], S)) rfl ?_
      rw [show nro (nmb T V 23) i + nmb T V 23 i * 16 ^ i = nro (nmb T V 23) (i + 1) from rfl]
      exact ih
  refine run_ok 4 (c' := (4, [(0, .ref 23), (1, .int (nI 0)), (2, .int (nI 0))], [], S)) rfl ?_
  exact H 0 (Nat.zero_le _)

set_option maxHeartbeats 2000000 in
theorem c_fit (S : ST) (T : TD) (V : VS) (ls : Nat → Nat) (hT : TR 14 T S) (hto : tok T) (hC : CR 14 T V ls S) (hV : vk T V) (G : SD) (hg : SR G S) (hgo : sok G) : EX me_G_fit 1 [.ref 32, .ref 23] S (fun r u => r = some (.int (b2 (fitb T V G G.1 = true))) ∧ u = S) := by
  refine EX.of mok_G_fit (Nat.le_of_ble_eq_true rfl) ?_
  obtain ⟨n8, n9, hbt, het, hht, hlo⟩ := id hto
  obtain ⟨t1, t2, t3, t4, t5, t6, t7, t8, t9, t10, t11⟩ := id hT
  obtain ⟨h24, h25, h26, h27, h28, h29, hsr, g9, g10, g11, htl⟩ := id hC
  obtain ⟨hh9, hv3, hb9, hfw, hfb⟩ := id hV
  have qg := hgo.1
  have H : ∀ i, i ≤ G.1 → fitb T V G i = true → BX me_G_fit 1 none (fun r u => r = some (.int (b2 (fitb T V G G.1 = true))) ∧ u = S) (2, [(0, .ref 32), (1, .ref 23), (2, .int (nI i))], [], S) := by
    refine loop_up (P := fun i => fitb T V G i = true → BX me_G_fit 1 none (fun r u => r = some (.int (b2 (fitb T V G G.1 = true))) ∧ u = S) (2, [(0, .ref 32), (1, .ref 23), (2, .int (nI i))], [], S)) G.1 ?_ ?_
    · intro hfb
      refine run_ok 3 (c' := (7, [(0, .ref 32), (1, .ref 23), (2, .int (nI G.1))], [.int (S.1 32 3), .int (nI G.1)], S)) rfl ?_
      refine x_top (v' := nI G.1) hg.1 ?_
      refine x_icmpN_ge 69 rfl rfl (by omega) (by omega) (fun h7 => ?_) (fun hn => absurd (Nat.le_refl _) hn)
      refine run_ok 1 (c' := (70, [(0, .ref 32), (1, .ref 23), (2, .int (nI G.1))], [.int (nI 1)], S)) rfl ?_
      exact x_ret (r := some (.int (nI 1))) rfl rfl (Or.inr rfl) ⟨congrArg (fun z => some (Value.int z)) (b2_t hfb).symm, rfl⟩ rfl
    · intro i hi ih hfb
      have q1 := hgo.2 i hi
      have q2 := nmb_le (T := T) (w := G.2.1 i) (hv3 (G.2.2.1 i) q1.2.1).2.1
      refine run_ok 3 (c' := (7, [(0, .ref 32), (1, .ref 23), (2, .int (nI i))], [.int (S.1 32 3), .int (nI i)], S)) rfl ?_
      refine x_top (v' := nI G.1) hg.1 ?_
      refine x_icmpN_ge 69 rfl rfl (by omega) (by omega) (fun hn => absurd hn (show ¬ G.1 ≤ i by omega)) (fun h7 => ?_)
      refine run_ok 3 (c' := (15, [(0, .ref 32), (1, .ref 23), (2, .int (nI i))], [.int (nI i), .ref 34], S)) rfl ?_
      refine x_iaN (nI (G.2.2.1 i)) rfl rfl (by decide) (by omega) (hg.2.2.1 i (by omega)) ?_
      refine run_ok 1 (c' := (17, [(0, .ref 32), (1, .ref 23), (2, .int (nI i))], [.ref 23, .int (nI (G.2.2.1 i))], S)) rfl ?_
      refine x_gett (t := 14) rfl rfl htl ?_
      refine run_ok 1 (c' := (23, [(0, .ref 32), (1, .ref 23), (2, .int (nI i))], [.int (S.1 14 6), .int (nI (G.2.2.1 i))], S)) rfl ?_
      refine x_top (v' := nI (tnb T)) t9 ?_
      refine x_icmpN_ge 30 rfl rfl (by omega) (by omega) (fun h23 => ?_) (fun h23 => ?_)
      · refine run_ok 2 (c' := (32, [(0, .ref 32), (1, .ref 23), (2, .int (nI i)), (3, .int (nI 0))], [], S)) rfl ?_
        refine run_ok 1 (c' := (33, [(0, .ref 32), (1, .ref 23), (2, .int (nI i)), (3, .int (nI 0))], [.int (nI 0)], S)) rfl ?_
        refine x_ifN_eq 61 rfl rfl (by omega) (fun h33 => ?_) (fun hn => absurd rfl hn)
        refine run_ok 1 (c' := (62, [(0, .ref 32), (1, .ref 23), (2, .int (nI i)), (3, .int (nI 0))], [.int (nI 0)], S)) rfl ?_
        exact x_ret (r := some (.int (nI 0))) rfl rfl (Or.inl rfl) ⟨congrArg (fun z => some (Value.int z)) (b2_f (by rw [fitb_no (i := i) (by first | exact fun z => h58 z.2 | exact fun z => absurd z.1 (by omega)) G.1 hi]; decide)).symm, rfl⟩ rfl
      · refine run_ok 3 (c' := (32, [(0, .ref 32), (1, .ref 23), (2, .int (nI i)), (3, .int (nI 1))], [], S)) rfl ?_
        refine run_ok 1 (c' := (33, [(0, .ref 32), (1, .ref 23), (2, .int (nI i)), (3, .int (nI 1))], [.int (nI 1)], S)) rfl ?_
        refine x_ifN_eq 61 rfl rfl (by omega) (fun hn => absurd hn (by omega)) (fun h33 => ?_)
        refine run_ok 4 (c' := (42, [(0, .ref 32), (1, .ref 23), (2, .int (nI i)), (3, .int (nI 1))], [.int (nI i), .ref 33, .ref 23], S)) rfl ?_
        refine x_iaN (nI (G.2.1 i)) rfl rfl (by decide) (by omega) (hg.2.1 i (by omega)) ?_
        refine run_ok 3 (c' := (48, [(0, .ref 32), (1, .ref 23), (2, .int (nI i)), (3, .int (nI 1))], [.int (nI i), .ref 34, .int (nI (G.2.1 i)), .ref 23], S)) rfl ?_
        refine x_iaN (nI (G.2.2.1 i)) rfl rfl (by decide) (by omega) (hg.2.2.1 i (by omega)) ?_
        refine x_callV [.int (nI (G.2.1 i)), .int (nI (G.2.2.1 i))] rfl cv_V_nameBehind.1 lk_2_35 cv_V_nameBehind.2.1 cv_V_nameBehind.2.2.1 rfl cv_V_nameBehind.2.2.2.1 rfl rfl (Nat.le_of_ble_eq_true rfl) (by decide) cv_V_nameBehind.2.2.2.2 (c_nameBehind14 S T V ls hT hto hC hV (G.2.1 i) (G.2.2.1 i) (by omega) q1.1) ?_
        rintro r u ⟨hr, hu⟩
        rw [hr, hu]
        clear hr hu r u
        refine run_ok 3 (c' := (57, [(0, .ref 32), (1, .ref 23), (2, .int (nI i)), (3, .int (nI 1))], [.int (nI i), .ref 35, .int (nI (nmb T V (G.2.1 i) (G.2.2.1 i)))], S)) rfl ?_
        refine x_iaN (nI (G.2.2.2 i)) rfl rfl (by decide) (by omega) (hg.2.2.2 i (by omega)) ?_
        refine x_icmpN_eq 63 rfl rfl (by omega) (by omega) (fun h58 => ?_) (fun h58 => ?_)
        · refine run_ok 1 (c' := (66, [(0, .ref 32), (1, .ref 23), (2, .int (nI i + nI 1)), (3, .int (nI 1))], [], S)) rfl ?_
          rw [nI_add i 1]
          refine run_ok 1 (c' := (2, [(0, .ref 32), (1, .ref 23), (2, .int (nI (i + 1))), (3, .int (nI 1))], [], S)) rfl ?_
          refine x_less [0, 1, 2] rfl ?_
          exact ih (fitb_yes hfb ⟨by omega, h58⟩)
        · refine run_ok 1 (c' := (62, [(0, .ref 32), (1, .ref 23), (2, .int (nI i)), (3, .int (nI 1))], [.int (nI 0)], S)) rfl ?_
          exact x_ret (r := some (.int (nI 0))) rfl rfl (Or.inl rfl) ⟨congrArg (fun z => some (Value.int z)) (b2_f (by rw [fitb_no (i := i) (by first | exact fun z => h58 z.2 | exact fun z => absurd z.1 (by omega)) G.1 hi]; decide)).symm, rfl⟩ rfl
  refine run_ok 2 (c' := (2, [(0, .ref 32), (1, .ref 23), (2, .int (nI 0))], [], S)) rfl ?_
  exact H 0 (Nat.zero_le _) rfl

theorem c_clear (S : ST) : EX me_B_clear 0 [.ref 36] S (fun r u => r = none ∧ u = pt (pt S 36 0 (-1)) 36 1 (nI 0)) := by
  refine EX.of mok_B_clear (Nat.le_of_ble_eq_true rfl) ?_
  refine run_ok 6 (c' := (10, [(0, .ref 36)], [], (pt (pt S 36 0 (-1)) 36 1 (nI 0)))) rfl ?_
  exact x_ret (r := none) rfl rfl trivial ⟨rfl, rfl⟩ rfl

/-- the first of the greatest (99: none yet); the first of the least -/
def bup (b : Nat × Nat) (n f : Nat) : Nat × Nat := if b.1 = 99 ∨ b.2 < f then (n, f) else b
def bdn (b : Nat × Nat) (n f : Nat) : Nat × Nat := if b.1 = 99 ∨ f < b.2 then (n, f) else b
def whv (n : Nat) : Int32 := if n = 99 then (-1) else nI n
theorem whv_n1 {n : Nat} (h : n < 2147483648) : whv n = (-1) ↔ n = 99 := by
  unfold whv
  split
  · rename_i h1; exact ⟨fun _ => h1, fun _ => rfl⟩
  · rename_i h1
    refine ⟨fun e => ?_, fun e => absurd e h1⟩
    have h2 : (nI n).toInt = (n : Int) := nI_toInt (by omega)
    rw [e] at h2
    have h3 : ((-1 : Int32)).toInt = -1 := by decide
    omega
theorem whv_lt {n : Nat} (h : n < 99) : whv n = nI n := if_neg (by omega)
def BR (b : Nat × Nat) (u : ST) : Prop := u.1 36 0 = whv b.1 ∧ u.1 36 1 = nI b.2
def BN (b : Nat × Nat) (u : ST) : Prop := u.1 36 0 = whv b.1 ∧ u.1 36 1 = -(nI b.2)
set_option maxHeartbeats 2000000 in
theorem c_offerU (S : ST) (b : Nat × Nat) (n f : Nat) (hR : BR b S) (hb : b.1 < 1000) (hb2 : b.2 < 1000) (hn : n < 99) (hf : f < 1000) : EX me_B_offer 0 [.ref 36, .int (nI n), .int (nI f)] S (fun r u => r = none ∧ BR (bup b n f) u ∧ fr [36] S u ∧ u.2 = S.2) := by
  refine EX.of mok_B_offer (Nat.le_of_ble_eq_true rfl) ?_
  obtain ⟨hb1, hbx⟩ := hR
  refine run_ok 2 (c' := (4, [(0, .ref 36), (1, .int (nI n)), (2, .int (nI f))], [.int (S.1 36 0)], S)) rfl ?_
  refine x_top (v' := whv b.1) hb1 ?_
  refine run_ok 1 (c' := (5, [(0, .ref 36), (1, .int (nI n)), (2, .int (nI f))], [.int (-1), .int (whv b.1)], S)) rfl ?_
  refine x_icmp_eq 16 rfl rfl (fun h5 => ?_) (fun h5 => ?_)
  · refine run_ok 6 (c' := (26, [(0, .ref 36), (1, .int (nI n)), (2, .int (nI f))], [], (pt (pt S 36 0 (nI n)) 36 1 (nI f)))) rfl ?_
    exact x_ret (r := none) rfl rfl trivial ⟨rfl, by rw [show bup b n f = (n, f) from if_pos (by first | exact Or.inl ((whv_n1 (by omega)).mp h5) | exact Or.inr (by omega))]; exact ⟨(whv_lt hn).symm, rfl⟩, (fr.rf.pt (by decide)).pt (by decide), rfl⟩ rfl
  · refine run_ok 3 (c' := (13, [(0, .ref 36), (1, .int (nI n)), (2, .int (nI f))], [.int (S.1 36 1), .int (nI f)], S)) rfl ?_
    refine x_top (v' := nI b.2) hbx ?_
    refine x_icmpN_le 26 rfl rfl (by omega) (by omega) (fun h13 => ?_) (fun h13 => ?_)
    · exact x_ret (r := none) rfl rfl trivial ⟨rfl, by rw [show bup b n f = b from if_neg (fun z => z.elim (fun z => h5 ((whv_n1 (by omega)).mpr z)) (fun z => absurd z (by omega)))]; exact ⟨hb1, hbx⟩, fr.rf, rfl⟩ rfl
    · refine run_ok 6 (c' := (26, [(0, .ref 36), (1, .int (nI n)), (2, .int (nI f))], [], (pt (pt S 36 0 (nI n)) 36 1 (nI f)))) rfl ?_
      exact x_ret (r := none) rfl rfl trivial ⟨rfl, by rw [show bup b n f = (n, f) from if_pos (by first | exact Or.inl ((whv_n1 (by omega)).mp h5) | exact Or.inr (by omega))]; exact ⟨(whv_lt hn).symm, rfl⟩, (fr.rf.pt (by decide)).pt (by decide), rfl⟩ rfl

set_option maxHeartbeats 2000000 in
theorem c_offerD (S : ST) (b : Nat × Nat) (n f : Nat) (hR : BN b S) (hb : b.1 < 1000) (hb2 : b.2 < 1000) (hn : n < 99) (hf : f < 1000) : EX me_B_offer 0 [.ref 36, .int (nI n), .int (-(nI f))] S (fun r u => r = none ∧ BN (bdn b n f) u ∧ fr [36] S u ∧ u.2 = S.2) := by
  refine EX.of mok_B_offer (Nat.le_of_ble_eq_true rfl) ?_
  obtain ⟨hb1, hbx⟩ := hR
  refine run_ok 2 (c' := (4, [(0, .ref 36), (1, .int (nI n)), (2, .int (-(nI f)))], [.int (S.1 36 0)], S)) rfl ?_
  refine x_top (v' := whv b.1) hb1 ?_
  refine run_ok 1 (c' := (5, [(0, .ref 36), (1, .int (nI n)), (2, .int (-(nI f)))], [.int (-1), .int (whv b.1)], S)) rfl ?_
  refine x_icmp_eq 16 rfl rfl (fun h5 => ?_) (fun h5 => ?_)
  · refine run_ok 6 (c' := (26, [(0, .ref 36), (1, .int (nI n)), (2, .int (-(nI f)))], [], (pt (pt S 36 0 (nI n)) 36 1 (-(nI f))))) rfl ?_
    exact x_ret (r := none) rfl rfl trivial ⟨rfl, by rw [show bdn b n f = (n, f) from if_pos (by first | exact Or.inl ((whv_n1 (by omega)).mp h5) | exact Or.inr (Nat.lt_of_not_le (fun q => h13 ((sb_nle (by omega) (by omega)).mpr q))))]; exact ⟨(whv_lt hn).symm, rfl⟩, (fr.rf.pt (by decide)).pt (by decide), rfl⟩ rfl
  · refine run_ok 3 (c' := (13, [(0, .ref 36), (1, .int (nI n)), (2, .int (-(nI f)))], [.int (S.1 36 1), .int (-(nI f))], S)) rfl ?_
    refine x_top (v' := -(nI b.2)) hbx ?_
    refine x_icmp_le 26 rfl rfl (fun h13 => ?_) (fun h13 => ?_)
    · exact x_ret (r := none) rfl rfl trivial ⟨rfl, by rw [show bdn b n f = b from if_neg (fun z => z.elim (fun z => h5 ((whv_n1 (by omega)).mpr z)) (fun z => absurd ((sb_nle (by omega) (by omega)).mp h13) (by omega)))]; exact ⟨hb1, hbx⟩, fr.rf, rfl⟩ rfl
    · refine run_ok 6 (c' := (26, [(0, .ref 36), (1, .int (nI n)), (2, .int (-(nI f)))], [], (pt (pt S 36 0 (nI n)) 36 1 (-(nI f))))) rfl ?_
      exact x_ret (r := none) rfl rfl trivial ⟨rfl, by rw [show bdn b n f = (n, f) from if_pos (by first | exact Or.inl ((whv_n1 (by omega)).mp h5) | exact Or.inr (Nat.lt_of_not_le (fun q => h13 ((sb_nle (by omega) (by omega)).mpr q))))]; exact ⟨(whv_lt hn).symm, rfl⟩, (fr.rf.pt (by decide)).pt (by decide), rfl⟩ rfl


/-! the class's voyage beside the voyage's numbers -/
theorem sl32 : ∀ n, n < 32 → ((nI n &&& 31).toBitVec.smod 32).toNat = n := by decide +kernel
theorem bit_t {lo e : Nat} (hl : lo < 2147483648) (he : e < 32) : (nI lo >>> (nI e &&& 31)) &&& nI 1 = nI (if lo.testBit e = true then 1 else 0) := by
  rw [pk_shrN hl _ e (sl32 e he), pk_andN (by have := Nat.div_le_self lo (2 ^ e); omega) 1 (by decide)]
  congr 1
  rw [Nat.testBit_eq_decide_div_mod_eq]
  by_cases h : lo / 2 ^ e % 2 = 1
  · simp only [h, decide_true, if_true]
  · simp only [h, decide_false]
    rw [if_neg (by decide)]
    omega
def cnt (p : Nat → Bool) : Nat → Nat
  | 0 => 0
  | n + 1 => cnt p n + (if p n = true then 1 else 0)
theorem cnt_cg {p q : Nat → Bool} : ∀ {n : Nat}, (∀ k, k < n → p k = q k) → cnt p n = cnt q n := by
  intro n
  induction n with
  | zero => intro _; rfl
  | succ n ih =>
    intro h
    unfold cnt
    rw [ih (fun k hk => h k (by omega)), h n (by omega)]
theorem cnt_le (p : Nat → Bool) : ∀ n : Nat, cnt p n ≤ n := by
  intro n
  induction n with
  | zero => exact Nat.le_refl _
  | succ n ih => unfold cnt; split <;> omega
theorem cnt_down {p q : Nat → Bool} {k : Nat} (hp : p k = true) (hq : q k = false) (ho : ∀ j, j ≠ k → q j = p j) : ∀ {n : Nat}, k < n → cnt p n = cnt q n + 1 := by
  intro n
  induction n with
  | zero => intro h; omega
  | succ n ih =>
    intro h
    unfold cnt
    by_cases hk : k = n
    · subst hk
      rw [hp, hq, cnt_cg (p := p) (q := q) (fun j hj => (ho j (by omega)).symm)]
      simp
    · rw [ih (by omega), ho n (by omega)]
      omega
theorem cnt_0 {p : Nat → Bool} : ∀ {n : Nat}, cnt p n = 0 → ∀ k, k < n → p k = false := by
  intro n
  induction n with
  | zero => intro _ k hk; omega
  | succ n ih =>
    intro h k hk
    unfold cnt at h
    by_cases e : k = n
    · subst e
      cases hp : p k with
      | false => rfl
      | true => rw [hp] at h; simp at h
    · exact ih (by omega) k (by omega)
theorem cnt_1 {p : Nat → Bool} {k : Nat} (hp : p k = true) : ∀ {n : Nat}, k < n → 0 < cnt p n := by
  intro n h
  rcases Nat.eq_zero_or_pos (cnt p n) with h0 | h0
  · have := cnt_0 h0 k h
    rw [hp] at this
    cases this
  · exact h0
/-- how many boats are at sea or not launched yet -/
def lft (T : TD) (V : VS) : Nat := cnt (fun k => decide (vis V k ≤ 1)) (tnb T)
def vk (T : TD) (V : VS) : Prop := (∀ j, j < 64 → vh V j ≤ 9) ∧ (∀ k, k < 8 → vis V k ≤ 3 ∧ vnm V k ≤ 8 ∧ (vis V k = 1 → k < tnb T ∧ vnm V k < 8)) ∧ (∀ k, k < tnb T → vho V k ≤ 9 ∧ vgr V k ≤ 36 ∧ (vis V k ≤ 1 → vgr V k ≤ 27)) ∧ vfw V ≤ 24 ∧ vfb V ≤ 8
def CR (t : Nat) (T : TD) (V : VS) (ls : Nat → Nat) (u : ST) : Prop :=
  rh u 24 64 (vh V) ∧ rh u 25 8 (vis V) ∧ (∀ k, k < 8 → u.1 26 k = nmv (vnm V k)) ∧ rh u 27 (tnb T) (vgr V) ∧ rh u 28 (tnb T) (vho V) ∧ rh u 29 (tnb T) ls ∧ (∀ k, k < 8 → vis V k = 1 → u.1 30 k = nI (8 * vnm V k + tbu T k) ∧ u.1 31 k = nI (8 * tbu T k + vnm V k)) ∧ u.1 23 9 = nI (lft T V) ∧ u.1 23 10 = fwv (vfw V) ∧ u.1 23 11 = nmv (vfb V) ∧ u.2.2 = t
abbrev VL : List Nat := [23, 24, 25, 26, 27, 28, 29, 30, 31]
theorem fwv_n1 {w : Nat} (h : w ≤ 24) : fwv w = (-1) ↔ w = 24 := by
  unfold fwv
  split
  · rename_i h1; exact ⟨fun _ => h1, fun _ => rfl⟩
  · rename_i h1
    refine ⟨fun e => ?_, fun e => absurd e h1⟩
    have h2 : (nI w).toInt = (w : Int) := nI_toInt (by omega)
    rw [e] at h2
    have h3 : ((-1 : Int32)).toInt = -1 := by decide
    omega
theorem fwv_lt {w : Nat} (h : w < 24) : fwv w = nI w := if_neg (by omega)
theorem upn_s (f : Nat → Nat) (k v : Nat) : upn f k v k = v := if_pos rfl
theorem upn_n {f : Nat → Nat} {k v j : Nat} (h : j ≠ k) : upn f k v j = f j := if_neg h
theorem upd_s (f : Nat → Int32) (k : Nat) (v : Int32) : upd f k v k = v := if_pos rfl
theorem upd_n {f : Nat → Int32} {k j : Nat} {v : Int32} (h : j ≠ k) : upd f k v j = f j := if_neg h
theorem lft_dn {T : TD} {V V' : VS} {k : Nat} (hk : k < tnb T) (h1 : vis V k ≤ 1) (h2 : 1 < vis V' k) (ho : ∀ j, j ≠ k → vis V' j = vis V j) : lft T V = lft T V' + 1 :=
  cnt_down (k := k) (by simpa using h1) (by simpa using h2) (fun j hj => by rw [ho j hj]) hk
theorem lft_eq {T : TD} {V V' : VS} (ho : ∀ j, j < tnb T → (vis V' j ≤ 1 ↔ vis V j ≤ 1)) : lft T V = lft T V' :=
  cnt_cg (fun j hj => decide_eq_decide.mpr (ho j hj).symm)
def snk (T : TD) (w : Nat) (V : VS) (k : Nat) : VS := (upn (vh V) (8 * tbu T k + vnm V k) (if vh V (8 * tbu T k + vnm V k) < 9 then vh V (8 * tbu T k + vnm V k) + 1 else vh V (8 * tbu T k + vnm V k)), upn (vis V) k 2, vnm V, vgr V, vho V, (if vfw V = 24 then w else vfw V), (if vfw V = 24 then k else vfb V))
def brn (T : TD) (V : VS) (k : Nat) : Nat := vgr V k + (if tso T k = 1 then vh V (8 * vnm V k + tbu T k) / 2 else vh V (8 * vnm V k + tbu T k))
def bre (T : TD) (V : VS) (k : Nat) : VS := (vh V, vis V, vnm V, upn (vgr V) k (brn T V k), vho V, vfw V, vfb V)
theorem bea_s {T : TD} {w : Nat} {V : VS} {k : Nat} (h : 3 * vho V k < brn T V k ∨ vho V k = 0) : bea T w V k = snk T w (bre T V k) k := if_pos h
theorem bea_n {T : TD} {w : Nat} {V : VS} {k : Nat} (h : ¬ (3 * vho V k < brn T V k ∨ vho V k = 0)) : bea T w V k = bre T V k := if_neg h
theorem brn_le {T : TD} {V : VS} {k : Nat} (hg : vgr V k ≤ 27) (hh : vh V (8 * vnm V k + tbu T k) ≤ 9) : brn T V k ≤ 36 := by
  unfold brn
  split <;> omega

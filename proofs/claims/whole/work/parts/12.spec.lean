/-! what comes of a telling: the voyage, in natural numbers -/
def upn (f : Nat → Nat) (k v : Nat) : Nat → Nat := fun j => if j = k then v else f j
/-- told: hates at first; boats: sort, builder, week, strength; events: kind, week, boat; how many boats, events; which events are left out, as bits -/
abbrev TD : Type := (Nat → Nat) × (Nat → Nat) × (Nat → Nat) × (Nat → Nat) × (Nat → Nat) × (Nat → Nat) × (Nat → Nat) × (Nat → Nat) × Nat × Nat × Nat
abbrev th (T : TD) : Nat → Nat := T.1
abbrev tso (T : TD) : Nat → Nat := T.2.1
abbrev tbu (T : TD) : Nat → Nat := T.2.2.1
abbrev tla (T : TD) : Nat → Nat := T.2.2.2.1
abbrev tst (T : TD) : Nat → Nat := T.2.2.2.2.1
abbrev tek (T : TD) : Nat → Nat := T.2.2.2.2.2.1
abbrev tew (T : TD) : Nat → Nat := T.2.2.2.2.2.2.1
abbrev teb (T : TD) : Nat → Nat := T.2.2.2.2.2.2.2.1
abbrev tnb (T : TD) : Nat := T.2.2.2.2.2.2.2.2.1
abbrev tne (T : TD) : Nat := T.2.2.2.2.2.2.2.2.2.1
abbrev tlo (T : TD) : Nat := T.2.2.2.2.2.2.2.2.2.2
/-- hates, what each boat is, its name (8: none), grudge, strength; the first week, the first boat (24, 8: none) -/
abbrev VS : Type := (Nat → Nat) × (Nat → Nat) × (Nat → Nat) × (Nat → Nat) × (Nat → Nat) × Nat × Nat
abbrev vh (V : VS) : Nat → Nat := V.1
abbrev vis (V : VS) : Nat → Nat := V.2.1
abbrev vnm (V : VS) : Nat → Nat := V.2.2.1
abbrev vgr (V : VS) : Nat → Nat := V.2.2.2.1
abbrev vho (V : VS) : Nat → Nat := V.2.2.2.2.1
abbrev vfw (V : VS) : Nat := V.2.2.2.2.2.1
abbrev vfb (V : VS) : Nat := V.2.2.2.2.2.2
def tok (T : TD) : Prop := tnb T ≤ 8 ∧ tne T ≤ 9 ∧ (∀ k, k < tnb T → tso T k ≤ 2 ∧ tbu T k < 8 ∧ tla T k < 24 ∧ tst T k ≤ 9) ∧ (∀ e, e < tne T → tek T e < 3 ∧ tew T e < 24 ∧ teb T e < 8) ∧ (∀ j, j < 64 → th T j ≤ 9) ∧ tlo T < 512
def vok (T : TD) (V : VS) (w : Nat) : Prop := (∀ j, j < 64 → vh V j ≤ 9) ∧ (∀ k, k < 8 → vis V k ≤ 3 ∧ vnm V k ≤ 8 ∧ (vis V k = 1 → k < tnb T ∧ vnm V k < 8)) ∧ (∀ k, k < tnb T → vho V k ≤ 9 ∧ vgr V k ≤ 9 * w)
def stm (T : TD) (V : VS) : VS := (vh V, vis V, vnm V, vgr V, (fun k => if k < tnb T ∧ vis V k = 1 then vho V k - (if tso T k = 2 then 2 else 1) else vho V k), vfw V, vfb V)
def shr (T : TD) (V : VS) (k : Nat) : VS := (upn (vh V) (8 * vnm V k + tbu T k) (vh V (8 * vnm V k + tbu T k) - 1), vis V, vnm V, upn (vgr V) k 0, vho V, vfw V, vfb V)
def mku (T : TD) (V : VS) (k : Nat) : VS := (upn (upn (vh V) (8 * vnm V k + tbu T k) 0) (8 * tbu T k + vnm V k) 0, vis V, vnm V, vgr V, vho V, vfw V, vfb V)
def evt (T : TD) (V : VS) (e : Nat) : VS := if tek T e = 0 then stm T V else if vis V (teb T e) = 1 then (if tek T e = 1 then shr T V (teb T e) else mku T V (teb T e)) else V
def evs (T : TD) (w : Nat) : Nat → VS → VS
  | 0, V => V
  | e + 1, V => if tew T e = w ∧ (tlo T).testBit e = false then evt T (evs T w e V) e else evs T w e V
def wst (h : Nat → Nat) (b : Nat) : Nat → Nat × Nat
  | 0 => (8, 0)
  | p + 1 => if (wst h b p).2 < h (8 * p + b) then (p, h (8 * p + b)) else wst h b p
def lau (T : TD) (V : VS) (k : Nat) : VS := (vh V, upn (vis V) k (if (wst (vh V) (tbu T k) 8).1 = 8 then 3 else 1), upn (vnm V) k (wst (vh V) (tbu T k) 8).1, vgr V, vho V, vfw V, vfb V)
def lnc (T : TD) (w : Nat) (V : VS) : Nat → VS
  | 0 => V
  | k + 1 => if tla T k = w then lau T (lnc T w V k) k else lnc T w V k
def bea (T : TD) (w : Nat) (V : VS) (k : Nat) : VS :=
  if 3 * vho V k < vgr V k + (if tso T k = 1 then vh V (8 * vnm V k + tbu T k) / 2 else vh V (8 * vnm V k + tbu T k)) ∨ vho V k = 0 then
    (upn (vh V) (8 * tbu T k + vnm V k) (if vh V (8 * tbu T k + vnm V k) < 9 then vh V (8 * tbu T k + vnm V k) + 1 else vh V (8 * tbu T k + vnm V k)), upn (vis V) k 2, vnm V, upn (vgr V) k (vgr V k + (if tso T k = 1 then vh V (8 * vnm V k + tbu T k) / 2 else vh V (8 * vnm V k + tbu T k))), vho V, (if vfw V = 24 then w else vfw V), (if vfw V = 24 then k else vfb V))
  else (vh V, vis V, vnm V, upn (vgr V) k (vgr V k + (if tso T k = 1 then vh V (8 * vnm V k + tbu T k) / 2 else vh V (8 * vnm V k + tbu T k))), vho V, vfw V, vfb V)
def sls (T : TD) (w : Nat) (V : VS) : Nat → VS
  | 0 => V
  | k + 1 => if vis (sls T w V k) k = 1 then bea T w (sls T w V k) k else sls T w V k
def wkf (T : TD) (w : Nat) (V : VS) : VS := sls T w (lnc T w (evs T w (tne T) V) (tnb T)) (tnb T)
def vz (T : TD) : VS := (th T, (fun _ => 0), (fun _ => 8), (fun _ => 0), tst T, 24, 8)
def vo (T : TD) : Nat → VS
  | 0 => vz T
  | w + 1 => wkf T w (vo T w)
/-- a name as the code has it -/
def nmv (p : Nat) : Int32 := if p = 8 then (-1) else nI p
def fwv (w : Nat) : Int32 := if w = 24 then (-1) else nI w
theorem nmv_lt {p : Nat} (h : p < 8) : nmv p = nI p := if_neg (by omega)
theorem nmv_8 : nmv 8 = (-1) := rfl
theorem nmv_n1 {p : Nat} (h : p ≤ 8) : nmv p = (-1) ↔ p = 8 := by
  unfold nmv
  split
  · rename_i h1; exact ⟨fun _ => h1, fun _ => rfl⟩
  · rename_i h1
    refine ⟨fun e => ?_, fun e => absurd e h1⟩
    have h2 : (nI p).toInt = (p : Int) := nI_toInt (by omega)
    rw [e] at h2
    have h3 : ((-1 : Int32)).toInt = -1 := by decide
    omega
theorem max0 {x b : Nat} (hx : x < 1000000) (hb : b < 1000000) : (if nI 0 < nI x - nI b then nI x - nI b else nI 0) = nI (x - b) := by
  by_cases h : b ≤ x
  · rw [pk_sub h]
    by_cases h0 : 0 < x - b
    · rw [if_pos ((nI_ltI (by decide) (by omega)).mpr h0)]
    · have : x - b = 0 := by omega
      rw [this, if_neg (by decide)]
  · have h1 : nI x - nI b < 0 := pk_sneg (by omega) (by omega)
    have h2 : ¬ nI 0 < nI x - nI b := fun z => by
      have h3 := Int32.lt_trans z h1
      exact absurd h3 (by decide)
    rw [if_neg h2]
    have : x - b = 0 := by omega
    rw [this]
/-- a row of the state holds these numbers -/
def rh (u : ST) (k n : Nat) (f : Nat → Nat) : Prop := ∀ j, j < n → u.1 k j = nI (f j)
theorem rh.put {u : ST} {k n e v : Nat} {f : Nat → Nat} (h : rh u k n f) : rh (pt u k e (nI v)) k n (upn f e v) := by
  intro j hj
  rw [pt_at]
  unfold upd upn
  split
  · rfl
  · exact h j hj
theorem rh.putv {u : ST} {k n e v : Nat} {x : Int32} {f : Nat → Nat} (h : rh u k n f) (hx : x = nI v) : rh (pt u k e x) k n (upn f e v) := by rw [hx]; exact h.put
theorem rh.ne {u : ST} {k k' n e : Nat} {v : Int32} {f : Nat → Nat} (h : rh u k n f) (hk : k ≠ k') : rh (pt u k' e v) k n f := by
  intro j hj
  show (if k = k' then _ else u.1 k) j = _
  rw [if_neg hk]
  exact h j hj
theorem rh.le {u : ST} {k n n' : Nat} {f : Nat → Nat} (h : rh u k n f) (hn : n' ≤ n) : rh u k n' f := fun j hj => h j (by omega)
theorem rh.keep {u v : ST} {k n : Nat} {f : Nat → Nat} {ks : List Nat} (h : rh u k n f) (hf : fr ks u v) (hk : k ∉ ks) : rh v k n f := fun j hj => by rw [hf k hk]; exact h j hj
theorem rh.cg {u : ST} {k n : Nat} {f g : Nat → Nat} (h : rh u k n f) (hg : ∀ j, j < n → g j = f j) : rh u k n g := fun j hj => by rw [hg j hj]; exact h j hj
theorem x_gett {M : MI} {D : Nat} {sc : Option (Nat × (Nat → Int32))} {Q : Option Value → ST → Prop} {pc : Nat} {lv : List (Nat × Value)} {st : List Value} {S : ST} {i t : Nat} (hf : fet M pc = some (.getfield i)) (hi : fld (mow M) i = some (5, 0)) (ht : S.2.2 = t) (kk : BX M D sc Q (pc + 3, lv, .ref t :: st, S)) : BX M D sc Q (pc, lv, .ref 23 :: st, S) := by
  refine x_getfield (c' := (pc + 3, lv, .ref t :: st, S)) hf ?_ kk
  unfold gtf
  dsimp only
  rw [hi, shp23]
  show some (pc + 3, lv, Value.ref (if 1000 = 1000 then S.2.2 else 1000) :: st, S) = _
  rw [if_pos rfl, ht]
/-- the telling t of the class's (5: told, 14: the trial's) holds T -/
def TR (t : Nat) (T : TD) (u : ST) : Prop := rh u (t + 1) 64 (th T) ∧ rh u (t + 2) (tnb T) (tso T) ∧ rh u (t + 3) (tnb T) (tbu T) ∧ rh u (t + 4) (tnb T) (tla T) ∧ rh u (t + 5) (tnb T) (tst T) ∧ rh u (t + 6) (tne T) (tek T) ∧ rh u (t + 7) (tne T) (tew T) ∧ rh u (t + 8) (tne T) (teb T) ∧ u.1 t 6 = nI (tnb T) ∧ u.1 t 10 = nI (tne T) ∧ u.1 t 11 = nI (tlo T)
theorem TR.keep {t : Nat} {T : TD} {u v : ST} {ks : List Nat} (h : TR t T u) (hf : fr ks u v) (hk : ∀ i, i < 9 → t + i ∉ ks) : TR t T v := by
  obtain ⟨h1, h2, h3, h4, h5, h6, h7, h8, h9, h10, h11⟩ := h
  have h0 := hf t (hk 0 (by omega))
  exact ⟨h1.keep hf (hk 1 (by omega)), h2.keep hf (hk 2 (by omega)), h3.keep hf (hk 3 (by omega)), h4.keep hf (hk 4 (by omega)), h5.keep hf (hk 5 (by omega)), h6.keep hf (hk 6 (by omega)), h7.keep hf (hk 7 (by omega)), h8.keep hf (hk 8 (by omega)), by rw [h0]; exact h9, by rw [h0]; exact h10, by rw [h0]; exact h11⟩
/-! the loops' halves -/
def stmk (T : TD) (V : VS) (i k : Nat) : Nat := if k < i ∧ vis V k = 1 then vho V k - (if tso T k = 2 then 2 else 1) else vho V k
theorem stmk_a {T : TD} {V : VS} {i b : Nat} (h1 : vis V i = 1) (h2 : (if tso T i = 2 then 2 else 1) = b) (j : Nat) : stmk T V (i + 1) j = upn (stmk T V i) i (vho V i - b) j := by
  unfold stmk upn
  by_cases hj : j = i
  · subst hj
    rw [if_pos ⟨by omega, h1⟩, if_pos rfl, h2]
  · have e : (j < i + 1 ∧ vis V j = 1) ↔ (j < i ∧ vis V j = 1) := by omega
    simp only [e, hj, if_false]
theorem stmk_b {T : TD} {V : VS} {i : Nat} (h1 : ¬ vis V i = 1) (j : Nat) : stmk T V (i + 1) j = stmk T V i j := by
  unfold stmk
  by_cases hj : j = i
  · subst hj
    rw [if_neg (fun z => h1 z.2), if_neg (fun z => h1 z.2)]
  · have e : (j < i + 1 ∧ vis V j = 1) ↔ (j < i ∧ vis V j = 1) := by omega
    simp only [e]
theorem stmk_c (T : TD) (V : VS) (i : Nat) : stmk T V i i = vho V i := if_neg (fun z => Nat.lt_irrefl _ z.1)
theorem stmk_0 (T : TD) (V : VS) (j : Nat) : stmk T V 0 j = vho V j := if_neg (fun z => Nat.not_lt_zero _ z.1)
theorem stmk_n (T : TD) (V : VS) (j : Nat) : vho (stm T V) j = stmk T V (tnb T) j := rfl
theorem wst_le (h : Nat → Nat) (b : Nat) (hh : ∀ j, j < 64 → h j ≤ 9) (hb : b < 8) : ∀ p, p ≤ 8 → (wst h b p).1 ≤ 8 ∧ (wst h b p).2 ≤ 9 := by
  intro p
  induction p with
  | zero => intro _; exact ⟨Nat.le_refl 8, Nat.zero_le 9⟩
  | succ p ih =>
    intro hp
    unfold wst
    split
    · exact ⟨by omega, hh _ (by omega)⟩
    · exact ih (by omega)

/-! the little machine: a state of the whole world, its cells, its picture on the heap -/
abbrev ST : Type := (Nat → Nat → Int32) × (Nat → Int64) × Nat
abbrev CFG : Type := Nat × List (Nat × Value) × List Value × ST
abbrev SH : Type := Nat × Nat × List (Option Nat)
def shp : List SH := [
  (10, 11, [some 1, some 3, some 5, some 14, some 23, some 32, some 36, some 37, some 46, some 47, none]),
  (8, 3, [some 2, none, none]),
  (0, 47, []),
  (8, 3, [some 4, none, none]),
  (0, 39, []),
  (7, 12, [some 6, none, some 7, some 8, some 9, some 10, none, some 11, some 12, some 13, none, none]),
  (0, 64, []),
  (0, 8, []),
  (0, 8, []),
  (0, 8, []),
  (0, 8, []),
  (0, 9, []),
  (0, 9, []),
  (0, 9, []),
  (7, 12, [some 15, none, some 16, some 17, some 18, some 19, none, some 20, some 21, some 22, none, none]),
  (0, 64, []),
  (0, 8, []),
  (0, 8, []),
  (0, 8, []),
  (0, 8, []),
  (0, 9, []),
  (0, 9, []),
  (0, 9, []),
  (9, 12, [some 1000, some 24, some 25, some 26, some 27, some 28, some 29, some 30, some 31, none, none, none]),
  (0, 64, []),
  (0, 8, []),
  (0, 8, []),
  (0, 8, []),
  (0, 8, []),
  (0, 8, []),
  (0, 8, []),
  (0, 8, []),
  (6, 4, [some 33, some 34, some 35, none]),
  (0, 8, []),
  (0, 8, []),
  (0, 8, []),
  (4, 2, [none, none]),
  (3, 4, [some 38, some 40, some 42, some 44]),
  (5, 4, [some 39, none, none, none]),
  (0, 60, []),
  (5, 4, [some 41, none, none, none]),
  (0, 60, []),
  (5, 4, [some 43, none, none, none]),
  (0, 60, []),
  (5, 4, [some 45, none, none, none]),
  (0, 60, []),
  (1, 8, []),
  (0, 10, []),
  (11, 43, [some 49, some 50, none, some 51, some 52, none, some 53, some 54, some 55, some 56, none, some 57, some 58, some 59, none, some 60, some 61, some 62, none, some 63, some 64, some 65, some 66, some 67, none, none, some 68, some 69, some 70, some 71, some 72, some 73, none, some 74, some 75, some 76, some 77, some 78, some 79, some 80, some 81, some 82, none]),
  (0, 2, []),
  (0, 94, []),
  (0, 39, []),
  (0, 64, []),
  (0, 9, []),
  (0, 9, []),
  (0, 9, []),
  (0, 9, []),
  (0, 9, []),
  (0, 9, []),
  (0, 9, []),
  (0, 9, []),
  (0, 9, []),
  (0, 9, []),
  (0, 64, []),
  (0, 8, []),
  (0, 8, []),
  (0, 8, []),
  (0, 8, []),
  (0, 192, []),
  (0, 192, []),
  (0, 192, []),
  (0, 192, []),
  (0, 1536, []),
  (0, 2, []),
  (0, 8, []),
  (0, 8, []),
  (0, 8, []),
  (0, 240, []),
  (2, 4, []),
  (0, 4, []),
  (0, 4, []),
  (0, 240, []),
  (0, 60, [])]
def em (ad : Nat → Nat) : Value → Value
  | .ref k => .ref (ad k)
  | .int x => .int x
  | .long x => .long x
  | v => v
def lem (ad : Nat → Nat) (lv : List (Nat × Value)) : List (Nat × Value) := lv.map (fun q => (q.1, em ad q.2))
theorem em_cat (ad : Nat → Nat) (v : Value) : (em ad v).category = v.category := by cases v <;> rfl
def gv (S : ST) (k j : Nat) : Option Nat → Value
  | none => .int (S.1 k j)
  | some t => .ref (if t = 1000 then S.2.2 else t)
def fv (ad : Nat → Nat) (S : ST) (k j : Nat) (o : Option Nat) : Value := em ad (gv S k j o)
def cel (ad : Nat → Nat) (tc : Nat → ClassId) (S : ST) (k : Nat) (h : SH) : va_E := match h.1 with
  | 0 => .inl (tc 0, h.2.1, .inl (S.1 k))
  | 1 => .inl (tc 1, h.2.1, .inr (.inl S.2.1))
  | 2 => .inl (tc 2, h.2.1, .inl (S.1 k))
  | 3 => .inl (tc 3, h.2.1, .inr (.inr (.inr (.inr (fun j => (h.2.2.getD j none).map ad)))))
  | c + 4 => .inr (c, h.2.2.mapIdx (fv ad S k))
def wld (ad : Nat → Nat) (tc : Nat → ClassId) (S : ST) : va_W := shp.mapIdx (fun k h => (ad k, cel ad tc S k h))
def tyl (tc : Nat → ClassId) : List (ClassId × FieldType) := [(tc 0, .int), (tc 1, .long), (tc 2, .boolean), (tc 3, .object "BoatNames$Sheet")]
def rwr (S : ST) (k : Nat) (f : Nat → Int32) : ST := (fun a => if a = k then f else S.1 a, S.2)
def pt (S : ST) (k j : Nat) (v : Int32) : ST := rwr S k (upd (S.1 k) j v)
def ptl (S : ST) (j : Nat) (v : Int64) : ST := (S.1, vp_updL S.2.1 j v, S.2.2)
def ptt (S : ST) (t : Nat) : ST := (S.1, S.2.1, t)
theorem fv_congr {ad : Nat → Nat} {S S' : ST} {k : Nat} (h1 : S.1 k = S'.1 k) (h2 : S.2 = S'.2) : fv ad S k = fv ad S' k := by
  funext j o
  cases o <;> simp only [fv, gv, h1, h2]
theorem cel_congr {ad : Nat → Nat} {tc : Nat → ClassId} {S S' : ST} {k : Nat} {h : SH} (h1 : S.1 k = S'.1 k) (h2 : S.2 = S'.2) : cel ad tc S k h = cel ad tc S' k h := by
  unfold cel
  rw [fv_congr h1 h2, h1, h2]
theorem wld_at {ad : Nat → Nat} {tc : Nat → ClassId} (S : ST) {k : Nat} {h : SH} (hk : shp[k]? = some h) : (wld ad tc S)[k]? = some (ad k, cel ad tc S k h) := by
  simp only [wld, List.getElem?_mapIdx, hk, Option.map_some]
theorem wld_set {ad : Nat → Nat} {tc : Nat → ClassId} {S S' : ST} {k : Nat} {h : SH} {e : va_E} (hk : shp[k]? = some h) (he : cel ad tc S' k h = e) (ho : ∀ k' h', k' ≠ k → shp[k']? = some h' → cel ad tc S' k' h' = cel ad tc S k' h') : (wld ad tc S).set k (ad k, e) = wld ad tc S' := by
  have hlt : k < shp.length := (List.getElem?_eq_some_iff.mp hk).1
  apply List.ext_getElem?
  intro i
  rw [List.getElem?_set]
  by_cases hi : k = i
  · subst hi
    rw [if_pos rfl, if_pos (by simpa [wld] using hlt), wld_at S' hk, he]
  · rw [if_neg hi]
    cases h2 : shp[i]? with
    | none => simp only [wld, List.getElem?_mapIdx, h2, Option.map_none]
    | some h' => rw [wld_at S h2, wld_at S' h2, ho i h' (fun e => hi e.symm) h2]
theorem wld_pt {ad : Nat → Nat} {tc : Nat → ClassId} {S : ST} {k j : Nat} {h : SH} {e : va_E} {v : Int32} (hk : shp[k]? = some h) (he : cel ad tc (pt S k j v) k h = e) : (wld ad tc S).set k (ad k, e) = wld ad tc (pt S k j v) :=
  wld_set hk he (fun k' h' hne _ => cel_congr (by simp only [pt, rwr, if_neg hne]) rfl)
theorem pt_at (S : ST) (k j : Nat) (v : Int32) : (pt S k j v).1 k = upd (S.1 k) j v := by simp only [pt, rwr, if_pos]
theorem wld_rwr {ad : Nat → Nat} {tc : Nat → ClassId} {S : ST} {k : Nat} {h : SH} {e : va_E} {f : Nat → Int32} (hk : shp[k]? = some h) (he : cel ad tc (rwr S k f) k h = e) : (wld ad tc S).set k (ad k, e) = wld ad tc (rwr S k f) :=
  wld_set hk he (fun k' h' hne _ => cel_congr (by simp only [rwr, if_neg hne]) rfl)
theorem shp_long : ∀ k h, shp[k]? = some h → h.1 = 1 → k = 46 := by
  have hb : (List.range 90).all (fun k => match shp[k]? with
    | some h => decide (h.1 = 1 → k = 46)
    | none => true) = true := by decide +kernel
  intro k h hk h1
  have hlt : k < shp.length := (List.getElem?_eq_some_iff.mp hk).1
  have hl : shp.length ≤ 90 := by decide +kernel
  have h2 := List.all_eq_true.mp hb k (List.mem_range.mpr (by omega))
  rw [hk] at h2
  exact of_decide_eq_true h2 h1
theorem wld_ptl {ad : Nat → Nat} {tc : Nat → ClassId} {S : ST} {j : Nat} {h : SH} {e : va_E} {v : Int64} (hk : shp[46]? = some h) (he : cel ad tc (ptl S j v) 46 h = e) : (wld ad tc S).set 46 (ad 46, e) = wld ad tc (ptl S j v) :=
  wld_set hk he (fun k' h' hne h2 => by
    have hn : h'.1 ≠ 1 := fun e1 => hne (shp_long k' h' h2 e1)
    have e1 : fv ad (ptl S j v) k' = fv ad S k' := by
      funext j o
      cases o <;> rfl
    unfold cel
    rw [e1]
    split <;> first | rfl | (exfalso; apply hn; assumption))
theorem shp_tl : ∀ k h, shp[k]? = some h → 4 ≤ h.1 → some 1000 ∈ h.2.2 → k = 23 := by
  have hb : (List.range 90).all (fun k => match shp[k]? with
    | some h => decide (4 ≤ h.1 → some 1000 ∈ h.2.2 → k = 23)
    | none => true) = true := by decide +kernel
  intro k h hk h0 h1
  have hlt : k < shp.length := (List.getElem?_eq_some_iff.mp hk).1
  have hl : shp.length ≤ 90 := by decide +kernel
  have h2 := List.all_eq_true.mp hb k (List.mem_range.mpr (by omega))
  rw [hk] at h2
  exact of_decide_eq_true h2 h0 h1
theorem wld_ptt {ad : Nat → Nat} {tc : Nat → ClassId} {S : ST} {t : Nat} {h : SH} {e : va_E} (hk : shp[23]? = some h) (he : cel ad tc (ptt S t) 23 h = e) : (wld ad tc S).set 23 (ad 23, e) = wld ad tc (ptt S t) :=
  wld_set hk he (fun k' h' hne h2 => by
    have hn : 4 ≤ h'.1 → some 1000 ∉ h'.2.2 := fun e0 e1 => hne (shp_tl k' h' h2 e0 e1)
    unfold cel
    split
    · rfl
    · rfl
    · rfl
    · rfl
    · rename_i c hc
      have h3 := hn (by omega)
      have e1 : h'.2.2.mapIdx (fv ad (ptt S t) k') = h'.2.2.mapIdx (fv ad S k') := by
        apply List.ext_getElem?
        intro i
        rw [List.getElem?_mapIdx, List.getElem?_mapIdx]
        cases hi : h'.2.2[i]? with
        | none => rfl
        | some o =>
          cases o with
          | none => rfl
          | some t' =>
            have : t' ≠ 1000 := fun e => h3 (by rw [← e]; exact List.mem_of_getElem? hi)
            simp only [Option.map_some, fv, gv, if_neg this]
      rw [e1])
def sub_tbl : ∀ w ∈ tables_1, w ∈ lw_tbl := fun _ h => List.mem_append_right _ h
def tbl : List Cond := lw_tbl.filter goodWord
theorem tbl_in {w : Cond} (h : w ∈ tables_1) (hg : goodWord w = true) : w ∈ tbl := List.mem_filter.mpr ⟨sub_tbl w h, hg⟩
theorem tbl_sel {q : MethodName × Nat} (h : q ∈ lw_privs) : Cond.selects q.1.cls q.1 q.1 ∈ tbl := List.mem_filter.mpr ⟨List.mem_append_left _ (List.mem_map.mpr ⟨q, h, rfl⟩), rfl⟩
theorem gd_all : GoodIn tbl tbl := fun w h => ⟨h, good_of_word (List.mem_filter.mp h).2⟩
theorem gd_lw : ∀ w ∈ tbl, w ∈ lw_tbl := fun w h => (List.mem_filter.mp h).1
def nw1 : Cond := .methodLinkNest "BoatNames$Telling" 76 ⟨"BoatNames", "pair", "(II)I"⟩ "BoatNames"
def nw2 : Cond := .methodLinkNest "BoatNames$Voyage" 122 ⟨"BoatNames", "pair", "(II)I"⟩ "BoatNames"
def nw3 : Cond := .methodLinkNest "BoatNames$Sheet" 32 ⟨"BoatNames", "isBelow", "(II)Z"⟩ "BoatNames"
def NW (U : State) : Prop := va_Nw nw1 U ∧ va_Nw nw2 U ∧ va_Nw nw3 U
theorem NW.warm {s U : State} (hW : s.WarmedH U.vm) (h : NW s) : NW U := ⟨va_Nw.warmM hW h.1, va_Nw.warmM hW h.2.1, va_Nw.warmM hW h.2.2⟩
theorem NW.same {s U : State} (hW : s.vm = U.vm) (h : NW s) : NW U := ⟨va_Nw.same rfl hW h.1, va_Nw.same rfl hW h.2.1, va_Nw.same rfl hW h.2.2⟩
theorem cls_good {C : String} {T : u_T} {N : Nat} (h1 : ∀ w ∈ u_ws C T N, w ∈ tables_1) (h2 : (u_ws C T N).all goodWord = true) : ∀ w ∈ u_ws C T N, w ∈ tbl := fun w h => tbl_in (h1 w h) (List.all_eq_true.mp h2 w h)
/-- each class of the worlds: its words, its fields' types, its fields' names -/
theorem cls_ok : ∀ (ci : Nat) (q : vw_C), clss[ci]? = some q → (∀ w ∈ u_ws q.1 q.2.1 q.2.2, w ∈ tbl) ∧ (∃ ty0 : Nat → FieldType, ∀ k, k < q.2.2 → parseFieldDescriptor (q.2.1 k).2.2.1 = some (ty0 k)) ∧ ∀ a, a < q.2.2 → ∀ b, b < q.2.2 → a ≠ b → (q.2.1 a).2.1 ≠ (q.2.1 b).2.1 := by
  intro ci q hq
  match ci, hq with
  | 0, hq => cases hq; exact ⟨cls_good iX0 (by decide +kernel), ⟨yX0, yX0_ok⟩, nX0⟩
  | 1, hq => cases hq; exact ⟨cls_good iX1 (by decide +kernel), ⟨yX1, yX1_ok⟩, nX1⟩
  | 2, hq => cases hq; exact ⟨cls_good iX2 (by decide +kernel), ⟨yX2, yX2_ok⟩, nX2⟩
  | 3, hq => cases hq; exact ⟨cls_good iX3 (by decide +kernel), ⟨yX3, yX3_ok⟩, nX3⟩
  | 4, hq => cases hq; exact ⟨cls_good iX4 (by decide +kernel), ⟨yX4, yX4_ok⟩, nX4⟩
  | 5, hq => cases hq; exact ⟨cls_good iX5 (by decide +kernel), ⟨yX5, yX5_ok⟩, nX5⟩
  | 6, hq => cases hq; exact ⟨cls_good iX6 (by decide +kernel), ⟨yX6, yX6_ok⟩, nX6⟩
  | 7, hq => cases hq; exact ⟨cls_good iX7 (by decide +kernel), ⟨yX7, yX7_ok⟩, nX7⟩
  | k + 8, hq => simp [clss] at hq
theorem fchl_ok {own : String} : ∀ (l : List (Nat × Nat × Nat)) (r : List Nat), fchl own l r = true → ∀ i ci j, l.lookup i = some (ci, j) → ∃ q, clss[ci]? = some q ∧ j < q.2.2 ∧ Cond.fieldLink own i (q.2.1 j).1 (q.2.1 j).2.1 (q.2.1 j).2.2.1 ∈ tbl := by
  intro l
  induction l with
  | nil => intro r _ i ci j h; simp at h
  | cons e l ih =>
    intro r h i ci j hl
    cases r with
    | nil => simp [fchl] at h
    | cons n r =>
      simp only [fchl, Bool.and_eq_true] at h
      rw [show e :: l = (e.1, e.2) :: l from rfl, List.lookup_cons] at hl
      by_cases he : (i == e.1) = true
      · rw [he] at hl
        have h3 : e.2 = (ci, j) := Option.some.inj hl
        have hi : i = e.1 := by simpa using he
        have h4 := h.1
        unfold fchk at h4
        cases hc : clss[e.2.1]? with
        | none => rw [hc] at h4; simp at h4
        | some q =>
          rw [hc] at h4
          simp only [Bool.and_eq_true, decide_eq_true_eq] at h4
          rw [h3] at hc h4
          exact ⟨q, hc, h4.1, by rw [hi]; exact tbl_in (List.mem_of_getElem? h4.2) rfl⟩
      · have he' : (i == e.1) = false := by simpa using he
        rw [he'] at hl
        exact ih r h.2 i ci j hl
/-- a field's link -/
theorem fld_ok {o : Nat} {own : String} {i ci j : Nat} (ho : cnm[o]? = some own) (h : fld o i = some (ci, j)) : ∃ q, clss[ci]? = some q ∧ j < q.2.2 ∧ Cond.fieldLink own i (q.2.1 j).1 (q.2.1 j).2.1 (q.2.1 j).2.2.1 ∈ tbl := by
  unfold fld at h
  match o, ho, h with
  | 0, ho, h => cases ho; exact fchl_ok _ _ fck0 i ci j h
  | 1, ho, h => cases ho; exact fchl_ok _ _ fck1 i ci j h
  | 2, ho, h => cases ho; exact fchl_ok _ _ fck2 i ci j h
  | 3, ho, h => cases ho; exact fchl_ok _ _ fck3 i ci j h
  | 4, ho, h => cases ho; exact fchl_ok _ _ fck4 i ci j h
  | 5, ho, h => cases ho; exact fchl_ok _ _ fck5 i ci j h
  | 6, ho, h => cases ho; exact fchl_ok _ _ fck6 i ci j h
  | 7, ho, h => cases ho; exact fchl_ok _ _ fck7 i ci j h
  | 8, ho, h => simp [ftb] at h
  | 9, ho, h => simp [ftb] at h
  | 10, ho, h => simp [ftb] at h
  | 11, ho, h => simp [ftb] at h
  | k + 12, ho, h => simp [cnm] at ho
/-! judgements -/
def rins : Option Value → Instr
  | none => .return_
  | some (.int _) => .ireturn
  | some (.long _) => .lreturn
  | some (.ref _) => .areturn
  | _ => .nop
def rfit : Option FieldType → Option Value → Prop
  | none, none => True
  | some .int, some (.int _) => True
  | some .boolean, some (.int v) => v = 0 ∨ v = 1
  | some .long, some (.long _) => True
  | some (.object _), some (.ref _) => True
  | _, _ => False
def CX (M : MI) (D : Nat) (sc : Option (Nat × (Nat → Int32))) (p : Program) (R : Room) (s : State) (m : MethodId) (args : Array Value) (c : Code) (ad : Nat → Nat) (tc : Nat → ClassId) (dC : Nat → ClassId) (dI : Nat → Nat → Nat) (A : Nat → Prop) (cells slots : Nat) : Prop :=
  p.tables.exec = Jvm.exec ∧ c.code = mcd M ∧ c.maxLocals = mml M ∧ s.vm.findClass (mnm M).cls = some m.cls ∧ (∀ w ∈ tbl, w.before args s = true) ∧ va_K (dC, dI) clss (tyl tc) s ∧ (∀ q : Nat, s.heap.size ≤ q → A q) ∧ (D ≤ R.frames ∧ 40 * D ≤ R.locals ∧ cells ≤ R.cells ∧ slots ≤ R.slots) ∧ (cnm[mow M]? = some (mnm M).cls ∧ tchk M = true ∧ NW s) ∧ (∀ L xs, sc = some (L, xs) → va_X (ad 999) L xs s s.heap ∧ ad 999 < s.heap.size ∧ ¬ A (ad 999))
def RT (M : MI) (Q : Option Value → ST → Prop) (p : Program) (l : Launch) (e : Env) (R : Room) (s : State) (m : MethodId) (args : Array Value) (below : List Frame) (meth : Method) (c : Code) (ad : Nat → Nat) (tc : Nat → ClassId) (dC : Nat → ClassId) (dI : Nat → Nat → Nat) (A : Nat → Prop) (cells slots : Nat) (Qw : State → Prop) : Prop :=
  ∀ (pc : Nat) (r : Option Value) (S' : ST) (H' : Heap) (locs' : List Loc) (ls' : Array Slot), Q r S' → rfit (mrt M) r → decode (mcd M) pc = .ok (rins r, 1) → va_P (dC, dI) clss (wld ad tc S') H' → va_D A (wld ad tc S') → va_S A s.heap H' locs' → W p l e R s m args below meth c H' locs' cells slots Qw (F0 m pc ls' (r.map (em ad)).toList)
def BX (M : MI) (D : Nat) (sc : Option (Nat × (Nat → Int32))) (Q : Option Value → ST → Prop) (c0 : CFG) : Prop :=
  ∀ (p : Program) (l : Launch) (e : Env) (R : Room) (s : State) (m : MethodId) (args : Array Value) (below : List Frame) (meth : Method) (c : Code) (ad : Nat → Nat) (tc : Nat → ClassId) (dC : Nat → ClassId) (dI : Nat → Nat → Nat) (A : Nat → Prop) (H : Heap) (locs : List Loc) (cells slots : Nat) (Qw : State → Prop) (ls : Array Slot),
    CX M D sc p R s m args c ad tc dC dI A cells slots → RT M Q p l e R s m args below meth c ad tc dC dI A cells slots Qw →
    va_P (dC, dI) clss (wld ad tc c0.2.2.2) H → va_D A (wld ad tc c0.2.2.2) → va_S A s.heap H locs → lv_has ls (mml M) (lem ad c0.2.1) →
    W p l e R s m args below meth c H locs cells slots Qw (F0 m c0.1 ls (c0.2.2.1.map (em ad)))
def PE (dC : Nat → ClassId) (dI : Nat → Nat → Nat) (ad : Nat → Nat) (tc : Nat → ClassId) (sz : Nat) (av : List Value) (S : ST) : Array Value → State → Prop := va_Pc (av.map (em ad)) (fun U => U.heap.size = sz ∧ va_P (dC, dI) clss (wld ad tc S) U.heap ∧ va_K (dC, dI) clss (tyl tc) U ∧ va_D (fun _ => True) (wld ad tc S) ∧ NW U)
def QE (dC : Nat → ClassId) (dI : Nat → Nat → Nat) (ad : Nat → Nat) (tc : Nat → ClassId) (sz : Nat) (Q : Option Value → ST → Prop) (S : ST) : Array Value → State → Outcome → State → Prop := fun _ st oc t => (∃ (r : Option Value) (u : ST), oc = .returned (r.map (em ad)) ∧ Q r u ∧ va_P (dC, dI) clss (wld ad tc u) t.heap ∧ va_K (dC, dI) clss (tyl tc) t ∧ va_D (va_A (wld ad tc S) sz) (wld ad tc u)) ∧ va_F (va_A (wld ad tc S) sz) st t
def rmD (D : Nat) : Room := { frames := D, cells := 0, slots := 0, locals := 40 * D }
def wsM (M : MI) : List Cond := Cond.code (mnm M) (mcd M) (mml M) (mrt M) :: tbl
/-- the method's contract, over the whole world: from S with these arguments it returns r and leaves u, with Q r u -/
def EX (M : MI) (D : Nat) (av : List Value) (S : ST) (Q : Option Value → ST → Prop) : Prop :=
  ∀ (l : Launch) (dC : Nat → ClassId) (dI : Nat → Nat → Nat) (ad : Nat → Nat) (tc : Nat → ClassId) (sz : Nat), Met l (mnm M) (wsM M) (rmD D) (PE dC dI ad tc sz av S) (QE dC dI ad tc sz Q S) 0 0 (va_A (wld ad tc S) sz)
theorem lem_args (ad : Nat → Nat) (av : List Value) : ∀ i, lv_args i (av.map (em ad)) = lem ad (lv_args i av) := by
  induction av with
  | nil => intro i; rfl
  | cons v t ih => intro i; simp only [List.map_cons, lv_args, lem, em_cat] at ih ⊢; rw [ih]
theorem sl_len (ad : Nat → Nat) (av : List Value) : (lg_sl (av.map (em ad))).length = (lg_sl av).length := by
  induction av with
  | nil => rfl
  | cons v t ih =>
    simp only [lg_sl, List.map_cons, List.flatMap_cons, List.length_append, em_cat] at ih ⊢
    rw [ih]
    split <;> rfl
theorem EX.of {M : MI} {D n : Nat} {av : List Value} {S : ST} {Q : Option Value → ST → Prop} (hm : MOK M n) (ha : (lg_sl av).length ≤ mml M) (h : BX M D none Q (0, lv_args 0 av, [], S)) : EX M D av S Q := by
  intro l dC dI ad tc sz
  refine Met.ofW (cc := mcd M) (maxL := mml M) (ret := mrt M) hm.2.2.1.1 rfl ?_
  intro p e s m args below meth c s₁ B hml hv
  obtain ⟨rfl, hsz, hP, hK, hD0, hN⟩ := hv
  have hts := atoms_spec (ws := wsM M) B.pre
  subst hsz
  have hD := hD0.self (sz := s.heap.size)
  have hl := lv_entry (av.map (em ad)) (n := mml M) (by rw [sl_len]; exact ha)
  have hlocks := B.notSynchronized
  have hr := B.returns
  rw [lg_entry_eq]
  rw [lem_args] at hl
  refine h p l e _ s m _ below meth c ad tc dC dI (va_A (wld ad tc S) s.heap.size) s.heap [] 0 0 _ _ ⟨B.exec, B.bytes, hml, findClass_of_methodNamed B.named, fun w hw => hts w (List.mem_cons_of_mem _ hw), hK, fun q hq => Or.inr hq, ⟨Nat.le_refl _, Nat.le_refl _, Nat.le_refl _, Nat.le_refl _⟩, ⟨hm.2.2.2.2, hm.2.2.2.1, hN⟩, fun _ _ hsc => by cases hsc⟩ ?_ hP hD va_S.rf hl
  intro pc r S' H' locs' ls' hQ hfit hdec hP' hD' hS'
  have hq : ∀ t : State, t.heap = H' → s.WarmedH t.vm → QE dC dI ad tc s.heap.size Q S (List.map (em ad) av).toArray s (.returned (r.map (em ad))) t := fun t ht hW => ⟨⟨r, S', rfl, hQ, by rw [ht]; exact hP', va_K.moved hW.alike hK, hD'⟩, hS'.F ht⟩
  cases hrt : mrt M with
  | none =>
    rw [hrt] at hfit hr
    cases r with
    | none => exact W.vret B.exec B.bytes hr hq hS'.2.2 hdec
    | some v => cases v <;> exact absurd hfit (fun h => h)
  | some ty =>
    rw [hrt] at hfit hr
    cases r with
    | none => cases ty <;> exact absurd hfit (fun h => h)
    | some v =>
      cases v with
      | int x =>
        cases ty with
        | int => exact W.iret (v := x) B.exec B.bytes hr hq hS'.2.2 hdec
        | boolean =>
          refine W.zret (v := x) (ty := .boolean) B.exec B.bytes hr ?_ hq hS'.2.2 hdec
          rcases hfit with rfl | rfl <;> rfl
        | _ => exact absurd hfit (fun h => h)
      | long x =>
        cases ty with
        | long => exact W.lret (v := x) B.exec B.bytes hr hq hS'.2.2 hdec
        | _ => exact absurd hfit (fun h => h)
      | ref x =>
        cases ty with
        | object nm => exact W.aret (v := .ref (ad x)) (rt := .object nm) B.exec B.bytes hr (Or.inl ⟨nm, rfl⟩) (Or.inr ⟨_, rfl⟩) hq hS'.2.2 hdec
        | _ => exact absurd hfit (fun h => h)
      | _ => cases ty <;> exact absurd hfit (fun h => h)

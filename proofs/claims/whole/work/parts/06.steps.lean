/-! one step of the little machine, and that the great one does it too -/
theorem fet_ok {M : MI} {pc : Nat} {i : Instr} (hc : tchk M = true) (h : fet M pc = some i) : ∃ n, decode (mcd M) pc = .ok (i, n) ∧ (ilen i = n ∨ ilen i = 0) := by
  unfold fet at h
  cases hr : (mtb M)[pc / 16]? with
  | none => rw [hr] at h; cases h
  | some r =>
    rw [hr] at h
    dsimp only at h
    have hm : (pc, i) ∈ r := by
      clear hr
      induction r with
      | nil => simp at h
      | cons q r ih =>
        rw [show q :: r = (q.1, q.2) :: r from rfl, List.lookup_cons] at h
        by_cases he : (pc == q.1) = true
        · rw [he] at h
          have : q.2 = i := Option.some.inj h
          have h1 : pc = q.1 := by simpa using he
          rw [← this, h1]
          exact List.mem_cons_self
        · have he' : (pc == q.1) = false := by simpa using he
          rw [he'] at h
          exact List.mem_cons_of_mem _ (ih h)
    have h1 := List.all_eq_true.mp hc r (List.mem_of_getElem? hr)
    have h2 := List.all_eq_true.mp h1 (pc, i) hm
    dsimp only at h2
    split at h2
    · rename_i i' n hd
      simp only [Bool.and_eq_true, decide_eq_true_eq, Bool.or_eq_true] at h2
      exact ⟨n, by rw [hd, h2.1], h2.2⟩
    · cases h2
theorem fet_1 {M : MI} {pc : Nat} {i : Instr} (hc : tchk M = true) (h : fet M pc = some i) (h0 : ilen i ≠ 0) : decode (mcd M) pc = .ok (i, ilen i) := by
  obtain ⟨n, h1, h2⟩ := fet_ok hc h
  rcases h2 with rfl | h2
  · exact h1
  · exact absurd h2 h0
def sto (i : Nat) (v : Value) (lv : List (Nat × Value)) : List (Nat × Value) := lv.filter (fun q => decide (q.1 < i) && !(q.1 + 1 == i && q.2.category == 2)) ++ (i, v) :: lv.filter (fun q => decide (i + (v.category - 1) < q.1))
theorem sto_1 {ad : Nat → Nat} {i : Nat} {v : Value} {lv : List (Nat × Value)} (hc : v.category = 1) : ∀ q ∈ lem ad (sto i v lv), q ∈ (i, em ad v) :: (lem ad lv).filter (fun q => !(q.1 == i) && !(q.1 + 1 == i && q.2.category == 2)) := by
  intro q hq
  obtain ⟨q0, h0, rfl⟩ := List.mem_map.mp hq
  rcases List.mem_append.mp h0 with h | h
  · obtain ⟨h1, h2⟩ := List.mem_filter.mp h
    simp only [Bool.and_eq_true, decide_eq_true_eq] at h2
    refine List.mem_cons_of_mem _ (List.mem_filter.mpr ⟨List.mem_map.mpr ⟨q0, h1, rfl⟩, ?_⟩)
    dsimp only
    rw [em_cat, h2.2]
    have : (q0.1 == i) = false := by simp; omega
    rw [this]
    rfl
  · rcases List.mem_cons.mp h with rfl | h
    · exact List.mem_cons_self
    · obtain ⟨h1, h2⟩ := List.mem_filter.mp h
      simp only [decide_eq_true_eq] at h2
      refine List.mem_cons_of_mem _ (List.mem_filter.mpr ⟨List.mem_map.mpr ⟨q0, h1, rfl⟩, ?_⟩)
      dsimp only
      have e1 : (q0.1 == i) = false := by simp; omega
      have e2 : (q0.1 + 1 == i) = false := by simp; omega
      rw [e1, e2]
      rfl
theorem sto_2 {ad : Nat → Nat} {i : Nat} {v : Value} {lv : List (Nat × Value)} (hc : v.category = 2) : ∀ q ∈ lem ad (sto i v lv), q ∈ (i, em ad v) :: (lem ad lv).filter (fun q => !(q.1 == i) && (!(q.1 == i + 1) && !(q.1 + 1 == i && q.2.category == 2))) := by
  intro q hq
  obtain ⟨q0, h0, rfl⟩ := List.mem_map.mp hq
  rcases List.mem_append.mp h0 with h | h
  · obtain ⟨h1, h2⟩ := List.mem_filter.mp h
    simp only [Bool.and_eq_true, decide_eq_true_eq] at h2
    refine List.mem_cons_of_mem _ (List.mem_filter.mpr ⟨List.mem_map.mpr ⟨q0, h1, rfl⟩, ?_⟩)
    dsimp only
    rw [em_cat, h2.2]
    have e1 : (q0.1 == i) = false := by simp; omega
    have e2 : (q0.1 == i + 1) = false := by simp; omega
    rw [e1, e2]
    rfl
  · rcases List.mem_cons.mp h with rfl | h
    · exact List.mem_cons_self
    · obtain ⟨h1, h2⟩ := List.mem_filter.mp h
      simp only [decide_eq_true_eq, hc] at h2
      refine List.mem_cons_of_mem _ (List.mem_filter.mpr ⟨List.mem_map.mpr ⟨q0, h1, rfl⟩, ?_⟩)
      dsimp only
      have e1 : (q0.1 == i) = false := by simp; omega
      have e2 : (q0.1 + 1 == i) = false := by simp; omega
      have e3 : (q0.1 == i + 1) = false := by simp; omega
      rw [e1, e2, e3]
      rfl
theorem lv_less {ls : Array Slot} {n : Nat} {l l' : List (Nat × Value)} (h : lv_has ls n l) (hs : ∀ q ∈ l', q ∈ l) : lv_has ls n l' := ⟨h.1, h.2.1, fun q hq => h.2.2 q (hs q hq)⟩
theorem lv_look {ls : Array Slot} {n : Nat} {lv : List (Nat × Value)} {ad : Nat → Nat} {k : Nat} {v : Value} (h : lv_has ls n (lem ad lv)) (hk : lv.lookup k = some v) : ls[k]? = some (.val (em ad v)) := by
  refine h.2.2 (k, em ad v) (List.mem_map.mpr ⟨(k, v), ?_, rfl⟩)
  clear h
  induction lv with
  | nil => simp at hk
  | cons q r ih =>
    rw [show q :: r = (q.1, q.2) :: r from rfl, List.lookup_cons] at hk
    by_cases he : (k == q.1) = true
    · rw [he] at hk
      have : q.2 = v := Option.some.inj hk
      have h1 : k = q.1 := by simpa using he
      rw [← this, h1]
      exact List.mem_cons_self
    · have he' : (k == q.1) = false := by simpa using he
      rw [he'] at hk
      exact List.mem_cons_of_mem _ (ih hk)
def o1 (f : Int32 → Int32) (pc : Nat) (lv : List (Nat × Value)) (st : List Value) (S : ST) : Option CFG := match st with
  | .int x :: r => some (pc + 1, lv, .int (f x) :: r, S)
  | _ => none
theorem o1_inv {f : Int32 → Int32} {pc : Nat} {lv : List (Nat × Value)} {st : List Value} {S : ST} {c' : CFG} (h : o1 f pc lv st S = some c') : ∃ x r, st = .int x :: r ∧ c' = (pc + 1, lv, .int (f x) :: r, S) := by
  unfold o1 at h
  split at h
  · rename_i x r
    exact ⟨x, r, rfl, (Option.some.inj h).symm⟩
  · cases h
def o2 (f : Int32 → Int32 → Int32) (pc : Nat) (lv : List (Nat × Value)) (st : List Value) (S : ST) : Option CFG := match st with
  | .int y :: .int x :: r => some (pc + 1, lv, .int (f x y) :: r, S)
  | _ => none
theorem o2_inv {f : Int32 → Int32 → Int32} {pc : Nat} {lv : List (Nat × Value)} {st : List Value} {S : ST} {c' : CFG} (h : o2 f pc lv st S = some c') : ∃ x y r, st = .int y :: .int x :: r ∧ c' = (pc + 1, lv, .int (f x y) :: r, S) := by
  unfold o2 at h
  split at h
  · rename_i y x r
    exact ⟨x, y, r, rfl, (Option.some.inj h).symm⟩
  · cases h
def l2 (f : Int64 → Int64 → Int64) (pc : Nat) (lv : List (Nat × Value)) (st : List Value) (S : ST) : Option CFG := match st with
  | .long y :: .long x :: r => some (pc + 1, lv, .long (f x y) :: r, S)
  | _ => none
theorem l2_inv {f : Int64 → Int64 → Int64} {pc : Nat} {lv : List (Nat × Value)} {st : List Value} {S : ST} {c' : CFG} (h : l2 f pc lv st S = some c') : ∃ x y r, st = .long y :: .long x :: r ∧ c' = (pc + 1, lv, .long (f x y) :: r, S) := by
  unfold l2 at h
  split at h
  · rename_i y x r
    exact ⟨x, y, r, rfl, (Option.some.inj h).symm⟩
  · cases h
def s2 (f : Int64 → Int32 → Int64) (pc : Nat) (lv : List (Nat × Value)) (st : List Value) (S : ST) : Option CFG := match st with
  | .int y :: .long x :: r => some (pc + 1, lv, .long (f x y) :: r, S)
  | _ => none
theorem s2_inv {f : Int64 → Int32 → Int64} {pc : Nat} {lv : List (Nat × Value)} {st : List Value} {S : ST} {c' : CFG} (h : s2 f pc lv st S = some c') : ∃ x y r, st = .int y :: .long x :: r ∧ c' = (pc + 1, lv, .long (f x y) :: r, S) := by
  unfold s2 at h
  split at h
  · rename_i y x r
    exact ⟨x, y, r, rfl, (Option.some.inj h).symm⟩
  · cases h
def ldi (k d pc : Nat) (lv : List (Nat × Value)) (st : List Value) (S : ST) : Option CFG := match lv.lookup k with
  | some (.int x) => some (pc + d, lv, .int x :: st, S)
  | _ => none
theorem ldi_inv {k d pc : Nat} {lv : List (Nat × Value)} {st : List Value} {S : ST} {c' : CFG} (h : ldi k d pc lv st S = some c') : ∃ x, lv.lookup k = some (.int x) ∧ c' = (pc + d, lv, .int x :: st, S) := by
  unfold ldi at h
  split at h
  · rename_i x hx
    exact ⟨x, hx, (Option.some.inj h).symm⟩
  · cases h
def ldl (k d pc : Nat) (lv : List (Nat × Value)) (st : List Value) (S : ST) : Option CFG := match lv.lookup k with
  | some (.long x) => some (pc + d, lv, .long x :: st, S)
  | _ => none
theorem ldl_inv {k d pc : Nat} {lv : List (Nat × Value)} {st : List Value} {S : ST} {c' : CFG} (h : ldl k d pc lv st S = some c') : ∃ x, lv.lookup k = some (.long x) ∧ c' = (pc + d, lv, .long x :: st, S) := by
  unfold ldl at h
  split at h
  · rename_i x hx
    exact ⟨x, hx, (Option.some.inj h).symm⟩
  · cases h
def lda (k d pc : Nat) (lv : List (Nat × Value)) (st : List Value) (S : ST) : Option CFG := match lv.lookup k with
  | some (.ref x) => some (pc + d, lv, .ref x :: st, S)
  | _ => none
theorem lda_inv {k d pc : Nat} {lv : List (Nat × Value)} {st : List Value} {S : ST} {c' : CFG} (h : lda k d pc lv st S = some c') : ∃ x, lv.lookup k = some (.ref x) ∧ c' = (pc + d, lv, .ref x :: st, S) := by
  unfold lda at h
  split at h
  · rename_i x hx
    exact ⟨x, hx, (Option.some.inj h).symm⟩
  · cases h
def sti (ml k d pc : Nat) (lv : List (Nat × Value)) (st : List Value) (S : ST) : Option CFG := match st with
  | .int x :: r => if k < ml then some (pc + d, sto k (.int x) lv, r, S) else none
  | _ => none
theorem sti_inv {ml k d pc : Nat} {lv : List (Nat × Value)} {st : List Value} {S : ST} {c' : CFG} (h : sti ml k d pc lv st S = some c') : ∃ x r, st = .int x :: r ∧ k < ml ∧ c' = (pc + d, sto k (.int x) lv, r, S) := by
  unfold sti at h
  split at h
  · rename_i x r
    split at h
    · rename_i hk
      exact ⟨x, r, rfl, hk, (Option.some.inj h).symm⟩
    · cases h
  · cases h
def stl (ml k d pc : Nat) (lv : List (Nat × Value)) (st : List Value) (S : ST) : Option CFG := match st with
  | .long x :: r => if k + 1 < ml then some (pc + d, sto k (.long x) lv, r, S) else none
  | _ => none
theorem stl_inv {ml k d pc : Nat} {lv : List (Nat × Value)} {st : List Value} {S : ST} {c' : CFG} (h : stl ml k d pc lv st S = some c') : ∃ x r, st = .long x :: r ∧ k + 1 < ml ∧ c' = (pc + d, sto k (.long x) lv, r, S) := by
  unfold stl at h
  split at h
  · rename_i x r
    split at h
    · rename_i hk
      exact ⟨x, r, rfl, hk, (Option.some.inj h).symm⟩
    · cases h
  · cases h
def sta (ml k d pc : Nat) (lv : List (Nat × Value)) (st : List Value) (S : ST) : Option CFG := match st with
  | .ref x :: r => if k < ml then some (pc + d, sto k (.ref x) lv, r, S) else none
  | _ => none
theorem sta_inv {ml k d pc : Nat} {lv : List (Nat × Value)} {st : List Value} {S : ST} {c' : CFG} (h : sta ml k d pc lv st S = some c') : ∃ x r, st = .ref x :: r ∧ k < ml ∧ c' = (pc + d, sto k (.ref x) lv, r, S) := by
  unfold sta at h
  split at h
  · rename_i x r
    split at h
    · rename_i hk
      exact ⟨x, r, rfl, hk, (Option.some.inj h).symm⟩
    · cases h
  · cases h
def iic (ml k : Nat) (n : Int) (pc : Nat) (lv : List (Nat × Value)) (st : List Value) (S : ST) : Option CFG := match lv.lookup k with
  | some (.int x) => if k < ml then some (pc + 3, sto k (.int (x + Int32.ofInt n)) lv, st, S) else none
  | _ => none
theorem iic_inv {ml k pc : Nat} {n : Int} {lv : List (Nat × Value)} {st : List Value} {S : ST} {c' : CFG} (h : iic ml k n pc lv st S = some c') : ∃ x, lv.lookup k = some (.int x) ∧ k < ml ∧ c' = (pc + 3, sto k (.int (x + Int32.ofInt n)) lv, st, S) := by
  unfold iic at h
  split at h
  · rename_i x hx
    split at h
    · rename_i hk
      exact ⟨x, hx, hk, (Option.some.inj h).symm⟩
    · cases h
  · cases h
def gtf (o i pc : Nat) (lv : List (Nat × Value)) (st : List Value) (S : ST) : Option CFG := match st with
  | .ref k :: r => match fld o i, shp[k]? with
    | some f, some h => if h.1 = f.1 + 4 then (match h.2.2[f.2]? with
      | some w => some (pc + 3, lv, gv S k f.2 w :: r, S)
      | none => none) else none
    | _, _ => none
  | _ => none
theorem gtf_inv {o i pc : Nat} {lv : List (Nat × Value)} {st : List Value} {S : ST} {c' : CFG} (h : gtf o i pc lv st S = some c') : ∃ k r ci j n fl w, st = .ref k :: r ∧ fld o i = some (ci, j) ∧ shp[k]? = some (ci + 4, n, fl) ∧ fl[j]? = some w ∧ c' = (pc + 3, lv, gv S k j w :: r, S) := by
  unfold gtf at h
  split at h
  · rename_i k r
    split at h
    · rename_i f h' hf hs
      split at h
      · rename_i he
        split at h
        · rename_i w hw
          obtain ⟨a, n, fl⟩ := h'
          obtain ⟨ci, j⟩ := f
          dsimp only at he hw
          subst he
          exact ⟨k, r, ci, j, n, fl, w, rfl, hf, hs, hw, (Option.some.inj h).symm⟩
        · cases h
      · cases h
    · cases h
  · cases h
/-- an int goes to a field; 'lost' takes 0 and 1 alone -/
def ptf (o i pc : Nat) (lv : List (Nat × Value)) (st : List Value) (S : ST) : Option CFG := match st with
  | .int v :: .ref k :: r => match fld o i, shp[k]? with
    | some f, some h => if h.1 = f.1 + 4 then (match h.2.2[f.2]? with
      | some none => if f.1 = 1 ∧ f.2 = 3 then (if v = 0 ∨ v = 1 then some (pc + 3, lv, r, pt S k f.2 v) else none) else some (pc + 3, lv, r, pt S k f.2 v)
      | _ => none) else none
    | _, _ => none
  | .ref t :: .ref k :: r => match fld o i with
    | some f => if k = 23 ∧ f.1 = 5 ∧ f.2 = 0 then some (pc + 3, lv, r, ptt S t) else none
    | none => none
  | _ => none
def ptf1 (o i pc : Nat) (lv : List (Nat × Value)) (st : List Value) (S : ST) (c' : CFG) : Prop := ∃ v k r ci j n fl, st = .int v :: .ref k :: r ∧ fld o i = some (ci, j) ∧ shp[k]? = some (ci + 4, n, fl) ∧ fl[j]? = some none ∧ ((ci = 1 ∧ j = 3) → v = 0 ∨ v = 1) ∧ c' = (pc + 3, lv, r, pt S k j v)
def ptf2 (o i pc : Nat) (lv : List (Nat × Value)) (st : List Value) (S : ST) (c' : CFG) : Prop := ∃ t r, st = .ref t :: .ref 23 :: r ∧ fld o i = some (5, 0) ∧ c' = (pc + 3, lv, r, ptt S t)
theorem ptf_inv {o i pc : Nat} {lv : List (Nat × Value)} {st : List Value} {S : ST} {c' : CFG} (h : ptf o i pc lv st S = some c') : ptf1 o i pc lv st S c' ∨ ptf2 o i pc lv st S c' := by
  unfold ptf at h
  split at h
  · rename_i v k r
    left
    split at h
    · rename_i f h' hf hs
      split at h
      · rename_i he
        split at h
        · rename_i hw
          obtain ⟨a, n, fl⟩ := h'
          obtain ⟨ci, j⟩ := f
          dsimp only at he hw
          subst he
          split at h
          · split at h
            · rename_i hv
              exact ⟨v, k, r, ci, j, n, fl, rfl, hf, hs, hw, fun _ => hv, (Option.some.inj h).symm⟩
            · cases h
          · rename_i hn
            exact ⟨v, k, r, ci, j, n, fl, rfl, hf, hs, hw, fun h1 => absurd h1 hn, (Option.some.inj h).symm⟩
        · cases h
      · cases h
    · cases h
  · rename_i t k r
    right
    split at h
    · rename_i f hf
      split at h
      · rename_i he
        obtain ⟨ci, j⟩ := f
        obtain ⟨rfl, h1, h2⟩ := he
        dsimp only at h1 h2
        subst h1
        subst h2
        exact ⟨t, r, rfl, hf, (Option.some.inj h).symm⟩
      · cases h
    · cases h
  · cases h
def gto (off : Int) (pc : Nat) (lv : List (Nat × Value)) (st : List Value) (S : ST) : Option CFG := if 0 ≤ (pc : Int) + off then some (((pc : Int) + off).toNat, lv, st, S) else none
def dp1 (pc : Nat) (lv : List (Nat × Value)) (st : List Value) (S : ST) : Option CFG := match st with
  | v :: r => if v.category = 1 then some (pc + 1, lv, v :: v :: r, S) else none
  | _ => none
theorem dp1_inv {pc : Nat} {lv : List (Nat × Value)} {st : List Value} {S : ST} {c' : CFG} (h : dp1 pc lv st S = some c') : ∃ v r, st = v :: r ∧ v.category = 1 ∧ c' = (pc + 1, lv, v :: v :: r, S) := by
  unfold dp1 at h
  split at h
  · rename_i v r
    split at h
    · rename_i hk
      exact ⟨v, r, rfl, hk, (Option.some.inj h).symm⟩
    · cases h
  · cases h
def dp2 (pc : Nat) (lv : List (Nat × Value)) (st : List Value) (S : ST) : Option CFG := match st with
  | v :: w :: r => if v.category = 1 ∧ w.category = 1 then some (pc + 1, lv, v :: w :: v :: w :: r, S) else none
  | _ => none
theorem dp2_inv {pc : Nat} {lv : List (Nat × Value)} {st : List Value} {S : ST} {c' : CFG} (h : dp2 pc lv st S = some c') : ∃ v w r, st = v :: w :: r ∧ (v.category = 1 ∧ w.category = 1) ∧ c' = (pc + 1, lv, v :: w :: v :: w :: r, S) := by
  unfold dp2 at h
  split at h
  · rename_i v w r
    split at h
    · rename_i hk
      exact ⟨v, w, r, rfl, hk, (Option.some.inj h).symm⟩
    · cases h
  · cases h
def wid (pc : Nat) (lv : List (Nat × Value)) (st : List Value) (S : ST) : Option CFG := match st with
  | .int x :: r => some (pc + 1, lv, .long x.toInt64 :: r, S)
  | _ => none
theorem wid_inv {pc : Nat} {lv : List (Nat × Value)} {st : List Value} {S : ST} {c' : CFG} (h : wid pc lv st S = some c') : ∃ x r, st = .int x :: r ∧ c' = (pc + 1, lv, .long x.toInt64 :: r, S) := by
  unfold wid at h
  split at h
  · rename_i x r
    exact ⟨x, r, rfl, (Option.some.inj h).symm⟩
  · cases h
def lcm_ (pc : Nat) (lv : List (Nat × Value)) (st : List Value) (S : ST) : Option CFG := match st with
  | .long y :: .long x :: r => some (pc + 1, lv, .int (lg_cmp x y) :: r, S)
  | _ => none
theorem lcm_inv {pc : Nat} {lv : List (Nat × Value)} {st : List Value} {S : ST} {c' : CFG} (h : lcm_ pc lv st S = some c') : ∃ x y r, st = .long y :: .long x :: r ∧ c' = (pc + 1, lv, .int (lg_cmp x y) :: r, S) := by
  unfold lcm_ at h
  split at h
  · rename_i y x r
    exact ⟨x, y, r, rfl, (Option.some.inj h).symm⟩
  · cases h
def knI (o i : Nat) : Option Int32 := match o, i with
  | 9, 265 => some 1431655765
  | 9, 266 => some 858993459
  | 9, 267 => some 252645135
  | 3, 96 => some 1103515245
  | 6, 261 => some (-2147483648)
  | 7, 318 => some 1103515245
  | 7, 332 => some (-2147483648)
  | _, _ => none
def knL (o i : Nat) : Option Int64 := match o, i with
  | 6, 237 => some (-9223372036854775806)
  | 6, 294 => some 17
  | 6, 296 => some 31
  | 7, 113 => some (-9223372036854775808)
  | 7, 342 => some 17
  | 7, 336 => some 31
  | _, _ => none
theorem knI_ok {o i : Nat} {v : Int32} {own : String} (ho : cnm[o]? = some own) (h : knI o i = some v) : Cond.constant own i v ∈ tbl := by
  unfold knI at h
  split at h
  · cases h; cases ho; exact tbl_in kck_9_265 rfl
  · cases h; cases ho; exact tbl_in kck_9_266 rfl
  · cases h; cases ho; exact tbl_in kck_9_267 rfl
  · cases h; cases ho; exact tbl_in kck_3_96 rfl
  · cases h; cases ho; exact tbl_in kck_6_261 rfl
  · cases h; cases ho; exact tbl_in kck_7_318 rfl
  · cases h; cases ho; exact tbl_in kck_7_332 rfl
  · cases h
theorem knL_ok {o i : Nat} {v : Int64} {own : String} (ho : cnm[o]? = some own) (h : knL o i = some v) : Cond.constantLong own i v ∈ tbl := by
  unfold knL at h
  split at h
  · cases h; cases ho; exact tbl_in kcl_6_237 rfl
  · cases h; cases ho; exact tbl_in kcl_6_294 rfl
  · cases h; cases ho; exact tbl_in kcl_6_296 rfl
  · cases h; cases ho; exact tbl_in kcl_7_113 rfl
  · cases h; cases ho; exact tbl_in kcl_7_342 rfl
  · cases h; cases ho; exact tbl_in kcl_7_336 rfl
  · cases h
def kci (o k d pc : Nat) (lv : List (Nat × Value)) (st : List Value) (S : ST) : Option CFG := match knI o k with
  | some v => some (pc + d, lv, .int v :: st, S)
  | none => none
theorem kci_inv {o k d pc : Nat} {lv : List (Nat × Value)} {st : List Value} {S : ST} {c' : CFG} (h : kci o k d pc lv st S = some c') : ∃ v, knI o k = some v ∧ c' = (pc + d, lv, .int v :: st, S) := by
  unfold kci at h
  split at h
  · rename_i v hv
    exact ⟨v, hv, (Option.some.inj h).symm⟩
  · cases h
def kcl (o k pc : Nat) (lv : List (Nat × Value)) (st : List Value) (S : ST) : Option CFG := match knL o k with
  | some v => some (pc + 3, lv, .long v :: st, S)
  | none => none
theorem kcl_inv {o k pc : Nat} {lv : List (Nat × Value)} {st : List Value} {S : ST} {c' : CFG} (h : kcl o k pc lv st S = some c') : ∃ v, knL o k = some v ∧ c' = (pc + 3, lv, .long v :: st, S) := by
  unfold kcl at h
  split at h
  · rename_i v hv
    exact ⟨v, hv, (Option.some.inj h).symm⟩
  · cases h
def ex1 (M : MI) (i : Instr) (pc : Nat) (lv : List (Nat × Value)) (st : List Value) (S : ST) : Option CFG := match i with
  | .iconst v => some (pc + 1, lv, .int (Int32.ofInt v) :: st, S)
  | .bipush v => some (pc + 2, lv, .int (Int8.ofInt v).toInt32 :: st, S)
  | .sipush v => some (pc + 3, lv, .int (Int16.ofInt v).toInt32 :: st, S)
  | .lconst v => some (pc + 1, lv, .long (Int64.ofNat v.val) :: st, S)
  | .iload_n k => ldi k.val 1 pc lv st S
  | .iload k => ldi k 2 pc lv st S
  | .lload_n k => ldl k.val 1 pc lv st S
  | .lload k => ldl k 2 pc lv st S
  | .aload_n k => lda k.val 1 pc lv st S
  | .aload k => lda k 2 pc lv st S
  | .istore_n k => sti (mml M) k.val 1 pc lv st S
  | .istore k => sti (mml M) k 2 pc lv st S
  | .lstore_n k => stl (mml M) k.val 1 pc lv st S
  | .lstore k => stl (mml M) k 2 pc lv st S
  | .astore_n k => sta (mml M) k.val 1 pc lv st S
  | .astore k => sta (mml M) k 2 pc lv st S
  | .iinc k n => iic (mml M) k n pc lv st S
  | .iadd => o2 (fun x y => x + y) pc lv st S
  | .isub => o2 (fun x y => x - y) pc lv st S
  | .imul => o2 (fun x y => x * y) pc lv st S
  | .iand => o2 (fun x y => x &&& y) pc lv st S
  | .ior => o2 (fun x y => x ||| y) pc lv st S
  | .ixor => o2 (fun x y => x ^^^ y) pc lv st S
  | .ishl => o2 (fun x y => x <<< (y &&& 31)) pc lv st S
  | .ishr => o2 (fun x y => x >>> (y &&& 31)) pc lv st S
  | .iushr => o2 (fun x y => (x.toUInt32 >>> (y.toUInt32 &&& Int32.toUInt32 31)).toInt32) pc lv st S
  | .ineg => o1 (fun x => -x) pc lv st S
  | .i2b => o1 (fun x => x.toInt8.toInt32) pc lv st S
  | .i2s => o1 (fun x => x.toInt16.toInt32) pc lv st S
  | .ladd => l2 (fun x y => x + y) pc lv st S
  | .lsub => l2 (fun x y => x - y) pc lv st S
  | .lmul => l2 (fun x y => x * y) pc lv st S
  | .land => l2 (fun x y => x &&& y) pc lv st S
  | .lshl => s2 (fun x y => x <<< (y.toInt64 &&& 63)) pc lv st S
  | .lshr => s2 (fun x y => x >>> (y.toInt64 &&& 63)) pc lv st S
  | .getfield i => gtf (mow M) i pc lv st S
  | .putfield i => ptf (mow M) i pc lv st S
  | .goto off => gto off pc lv st S
  | .dup => dp1 pc lv st S
  | .dup2 => dp2 pc lv st S
  | .i2l => wid pc lv st S
  | .lcmp => lcm_ pc lv st S
  | .ldc k => kci (mow M) k 2 pc lv st S
  | .ldc_w k => kci (mow M) k 3 pc lv st S
  | .ldc2_w k => kcl (mow M) k pc lv st S
  | _ => none
theorem cel_obj (ad : Nat → Nat) (tc : Nat → ClassId) (S : ST) (k ci n : Nat) (fl : List (Option Nat)) : cel ad tc S k (ci + 4, n, fl) = .inr (ci, fl.mapIdx (fv ad S k)) := rfl
theorem shp_int : ∀ (k ci n : Nat) (fl : List (Option Nat)) (j : Nat) (q : vw_C), shp[k]? = some (ci + 4, n, fl) → fl[j]? = some none → clss[ci]? = some q → (q.2.1 j).2.2.2 = false ∧ parseFieldDescriptor (q.2.1 j).2.2.1 = some (if ci = 1 ∧ j = 3 then .boolean else .int) := by
  have hb : (List.range 90).all (fun k => match shp[k]? with
    | some h => (match clss[h.1 - 4]? with
      | some q => (List.range h.2.2.length).all (fun j => match h.2.2[j]? with
        | some none => decide (4 ≤ h.1 → (q.2.1 j).2.2.2 = false ∧ parseFieldDescriptor (q.2.1 j).2.2.1 = some (if h.1 - 4 = 1 ∧ j = 3 then .boolean else .int))
        | _ => true)
      | none => true)
    | none => true) = true := by decide +kernel
  intro k ci n fl j q hk hj hq
  have hlt : k < shp.length := (List.getElem?_eq_some_iff.mp hk).1
  have hl : shp.length ≤ 90 := by decide +kernel
  have h2 := List.all_eq_true.mp hb k (List.mem_range.mpr (by omega))
  rw [hk] at h2
  dsimp only at h2
  rw [Nat.add_sub_cancel, hq] at h2
  dsimp only at h2
  have h3 := List.all_eq_true.mp h2 j (List.mem_range.mpr (List.getElem?_eq_some_iff.mp hj).1)
  rw [hj] at h3
  exact of_decide_eq_true h3 (by omega)
theorem fv_pt {ad : Nat → Nat} {S : ST} {k j : Nat} {v : Int32} {fl : List (Option Nat)} (hj : fl[j]? = some none) : fl.mapIdx (fv ad (pt S k j v) k) = (fl.mapIdx (fv ad S k)).set j (.int v) := by
  have hlt := (List.getElem?_eq_some_iff.mp hj).1
  apply List.ext_getElem?
  intro i
  rw [List.getElem?_set, List.getElem?_mapIdx, List.getElem?_mapIdx, List.length_mapIdx]
  by_cases hi : j = i
  · subst hi
    rw [if_pos rfl, if_pos hlt, hj]
    simp only [Option.map_some, fv, gv, pt_at, upd, if_pos, em]
  · rw [if_neg hi]
    cases fl[i]? with
    | none => rfl
    | some o =>
      cases o with
      | none => simp only [Option.map_some, fv, gv, pt_at, upd, if_neg (fun e => hi (Eq.symm e))]
      | some t => rfl
theorem fv_ptt {ad : Nat → Nat} {S : ST} {t : Nat} {fl : List (Option Nat)} (h0 : fl[0]? = some (some 1000)) (ho : ∀ i, i ≠ 0 → fl[i]? ≠ some (some 1000)) : fl.mapIdx (fv ad (ptt S t) 23) = (fl.mapIdx (fv ad S 23)).set 0 (.ref (ad t)) := by
  have hlt := (List.getElem?_eq_some_iff.mp h0).1
  apply List.ext_getElem?
  intro i
  rw [List.getElem?_set, List.getElem?_mapIdx, List.getElem?_mapIdx, List.length_mapIdx]
  by_cases hi : 0 = i
  · subst hi
    rw [if_pos rfl, if_pos hlt, h0]
    rfl
  · rw [if_neg hi]
    cases he : fl[i]? with
    | none => rfl
    | some o =>
      cases o with
      | none => rfl
      | some t' =>
        have : t' ≠ 1000 := fun e => ho i (fun e => hi e.symm) (by rw [he, e])
        simp only [Option.map_some, fv, gv, if_neg this]
theorem shp23 : shp[23]? = some (9, 12, [some 1000, some 24, some 25, some 26, some 27, some 28, some 29, some 30, some 31, none, none, none]) := by decide +kernel
set_option maxHeartbeats 1000000 in
theorem x_getfield {M : MI} {D : Nat} {sc : Option (Nat × (Nat → Int32))} {Q : Option Value → ST → Prop} {i : Nat} {pc : Nat} {lv : List (Nat × Value)} {st : List Value} {S : ST} {c' : CFG} (hf : fet M pc = some (.getfield i)) (h : gtf (mow M) i pc lv st S = some c') (kk0 : BX M D sc Q c') : BX M D sc Q (pc, lv, st, S) := by
  intro p l e R s m args below meth c ad tc dC dI A H locs cells slots Qw ls C T hP hD hS hl
  have K := kk0 p l e R s m args below meth c ad tc dC dI A
  obtain ⟨hx, hb, hml, hown, hts, hK, hA, hR, ⟨hcn, hck, hN⟩, hsc⟩ := id C
  have hd := fet_1 hck hf (Nat.succ_ne_zero _)
  obtain ⟨k, r, ci, j, n, fl, w, rfl, hfl, hsh, hw, rfl⟩ := gtf_inv h
  obtain ⟨q, hq, hj, hlk⟩ := fld_ok hcn hfl
  have hat := wld_at (ad := ad) (tc := tc) S hsh
  rw [cel_obj] at hat
  exact va_get hx hb hts (cls_ok ci q hq).1 hown hK hP k hat hq j hj (hts _ hlk) (fun _ h9 => h9) (v := fv ad S k j w) (by rw [List.getElem?_mapIdx, hw]; rfl) hd (K H locs cells slots Qw ls C T hP hD hS hl)
set_option maxHeartbeats 1000000 in
theorem x_putfield {M : MI} {D : Nat} {sc : Option (Nat × (Nat → Int32))} {Q : Option Value → ST → Prop} {i : Nat} {pc : Nat} {lv : List (Nat × Value)} {st : List Value} {S : ST} {c' : CFG} (hf : fet M pc = some (.putfield i)) (h : ptf (mow M) i pc lv st S = some c') (kk0 : BX M D sc Q c') : BX M D sc Q (pc, lv, st, S) := by
  intro p l e R s m args below meth c ad tc dC dI A H locs cells slots Qw ls C T hP hD hS hl
  have K := kk0 p l e R s m args below meth c ad tc dC dI A
  obtain ⟨hx, hb, hml, hown, hts, hK, hA, hR, ⟨hcn, hck, hN⟩, hsc⟩ := id C
  have hd := fet_1 hck hf (Nat.succ_ne_zero _)
  rcases ptf_inv h with ⟨v, k, r, ci, j, n, fl, rfl, hfl, hsh, hw, hz, rfl⟩ | ⟨t, r, rfl, hfl, rfl⟩
  · obtain ⟨q, hq, hj, hlk⟩ := fld_ok hcn hfl
    have hat := wld_at (ad := ad) (tc := tc) S hsh
    rw [cel_obj] at hat
    obtain ⟨hin, ⟨ty0, hty⟩, hnm⟩ := cls_ok ci q hq
    obtain ⟨hfin, hpd⟩ := shp_int k ci n fl j q hsh hw hq
    have hn : narrow (if ci = 1 ∧ j = 3 then .boolean else .int) (.int v) = .int v := by
      split
      · rename_i h1
        rcases hz h1 with rfl | rfl <;> rfl
      · rfl
    have hfit : fits (if ci = 1 ∧ j = 3 then .boolean else .int) (.int v) = true := by
      split
      · rename_i h1
        rcases hz h1 with rfl | rfl <;> rfl
      · rfl
    have he : (wld ad tc S).set k (ad k, .inr (ci, (fl.mapIdx (fv ad S k)).set j (.int v))) = wld ad tc (pt S k j v) := wld_pt hsh (by rw [cel_obj, fv_pt hw])
    refine va_put hx hb hts hin ty0 hty hnm hown hK hP hD hS k hat hq j hj (hts _ hlk) (fun _ h9 => h9) hfin hpd hn hfit (by rw [List.length_mapIdx]; exact (List.getElem?_eq_some_iff.mp hw).1) hd (fun H1 locs1 hP1 hD1 hS1 => ?_)
    have hP2 : va_P (dC, dI) clss (wld ad tc (pt S k j v)) H1 := by rw [← he]; exact hP1
    have hD2 : va_D A (wld ad tc (pt S k j v)) := by rw [← he]; exact hD1
    exact K H1 locs1 cells slots Qw ls C T hP2 hD2 hS1 hl
  · obtain ⟨q, hq, hj, hlk⟩ := fld_ok hcn hfl
    have hat := wld_at (ad := ad) (tc := tc) S shp23
    rw [show (9 : Nat) = 5 + 4 from rfl, cel_obj] at hat
    obtain ⟨hin, ⟨ty0, hty⟩, hnm⟩ := cls_ok 5 q hq
    have he : (wld ad tc S).set 23 (ad 23, .inr (5, (([some 1000, some 24, some 25, some 26, some 27, some 28, some 29, some 30, some 31, none, none, none] : List (Option Nat)).mapIdx (fv ad S 23)).set 0 (.ref (ad t)))) = wld ad tc (ptt S t) := wld_ptt shp23 (by
      rw [show (9 : Nat) = 5 + 4 from rfl, cel_obj, fv_ptt rfl]
      intro i hi
      match i, hi with
      | 1, _ | 2, _ | 3, _ | 4, _ | 5, _ | 6, _ | 7, _ | 8, _ | 9, _ | 10, _ | 11, _ => decide
      | k + 12, _ => simp)
    cases hq
    refine va_put (ty := .object "BoatNames$Telling") hx hb hts hin ty0 hty hnm hown hK hP hD hS 23 hat rfl 0 hj (hts _ hlk) (fun _ h9 => h9) rfl (by decide +kernel) rfl rfl (by rw [List.length_mapIdx]; decide) hd (fun H1 locs1 hP1 hD1 hS1 => ?_)
    have hP2 : va_P (dC, dI) clss (wld ad tc (ptt S t)) H1 := by rw [← he]; exact hP1
    have hD2 : va_D A (wld ad tc (ptt S t)) := by rw [← he]; exact hD1
    exact K H1 locs1 cells slots Qw ls C T hP2 hD2 hS1 hl

/-! the start: the state at first, the law's own end -/
/-! THE CLAIM OUT OF ONE WALK OF THE LAW'S BODY. Your part is whole_start (and what it stands on); all else here is the same for every law, but numbers. -/
def R_law : String := "BoatNamesLaw"
def lw_P (b : Addr) (xs : List Int32) (args : Array Value) (s : State) : Prop := args = #[.ref b] ∧ s.IntsAt b xs ∧ xs.length ≤ 3072 ∧ (Jvm.Cond.and given_1 narrow_1).before args s = true
def lw_Q (_ : Array Value) (s : State) (o : Outcome) (t : State) : Prop := o = .returned (some (.int 1)) ∧ Framed s o t [] 600000 7302250
def lw_Z (below : List Frame) (a : Array Value) (s : State) : State → Prop := fun t => ∃ o, t.status = .running ∧ Ended t below o ∧ lw_Q a s o t
/-- the law's own end, with 1 on the stack, nothing written that was there before, its room as the claim has it -/
theorem lw_ret {p : Program} {l : Launch} {e : Env} {s : State} {m : MethodId} {below : List Frame} {meth : Method} {c : Code} {b : Nat} (hx : p.tables.exec = Jvm.exec) (hb : c.code = code) (hr : meth.sig.returnType = ret) (hlocks : meth.locks = false) {pc : Nat} {H : Heap} {ls : Array Slot} (hdg : decode code pc = .ok (.ireturn, 1)) : W p l e room_1 s m #[Value.ref b] below meth c H [] 600000 7302250 (lw_Z below #[Value.ref b] s) (F0 m pc ls [.int 1]) := by
  intro T hT X
  obtain ⟨fs, hret, hrun, hended, hW, hframe⟩ := X.leave (v := some (.int 1)) (hlocks := hlocks) (fun h => by rw [hr] at h; cases h)
  have hmeth' : T.vm.method? m = some meth := X.method'
  refine ⟨T.setFrames fs, ?_, .returned (some (.int 1)), hrun, hended, rfl, ⟨_, rfl⟩, hW, hframe⟩
  jvm_step X.here [X.here.top, hx, hb, hdg, hmeth', hr, ret, narrow_b1]
  (try refine ⟨rfl, ?_⟩); (try refine ⟨rfl, ?_⟩)
  first | (intro acts; rw [hret _ acts rfl rfl rfl]) | rw [hret _ _ rfl rfl rfl]
  exact Steps.refl _
/-- what holds at the law's entry: the machine, the code, the tables' words (any of lw_tbl by 'hts w (by decide +kernel)'), the script of L ints xs at the cell b, what the Statement gives of the start (any of its parts by flat_of_before) -/
def lw_At (p : Program) (s : State) (m : MethodId) (meth : Method) (c : Code) (b L : Nat) (xs : Nat → Int32) : Prop :=
  p.tables.exec = Jvm.exec ∧ c.code = code ∧ meth.sig.returnType = ret ∧ c.maxLocals = 4 ∧ s.vm.findClass R_law = some m.cls ∧ (∀ w ∈ lw_tbl, w.before #[Value.ref b] s = true) ∧ va_X b L xs s s.heap ∧ b < s.heap.size ∧ meth.locks = false ∧ (Jvm.Cond.and given_1 narrow_1).before #[Value.ref b] s = true
def s00 : Nat → Nat → Int32 := fun k => if k = 1 then (fun j => if j = 2 then (-1) else 0) else if k = 3 then (fun j => if j = 2 then (-1) else 0) else if k = 23 then (fun j => if j = 10 then (-1) else if j = 11 then (-1) else 0) else if k = 36 then (fun j => if j = 0 then (-1) else 0) else if k = 38 then (fun j => if j = 3 then 1 else 0) else if k = 40 then (fun j => if j = 3 then 1 else 0) else if k = 42 then (fun j => if j = 3 then 1 else 0) else if k = 44 then (fun j => if j = 3 then 1 else 0) else (fun _ => 0)
/-- the state at first -/
def S00 : ST := (s00, (fun _ => 0), 5)
def T00 : TD := ((fun _ => 0), (fun _ => 0), (fun _ => 0), (fun _ => 0), (fun _ => 0), (fun _ => 0), (fun _ => 0), (fun _ => 0), 0, 0, 0)
theorem no0 {P : Nat → Prop} : ∀ j, j < 0 → P j := fun _ h => absurd h (Nat.not_lt_zero _)
theorem hcn_0 (b : Nat → Nat) : hcn 0 b = 0 := by
  unfold hcn
  split <;> rfl
theorem bcn_0 (b : Nat → Nat) : bcn 0 b = 0 := by
  unfold bcn
  split <;> rfl
theorem flt_0 (ok : Nat → Bool) (st : Nat) : flt ok st 0 = none := flt_all (fun i hi => absurd hi (Nat.not_lt_zero _)) (Or.inl rfl)
theorem inv0 : INV S00 := by
  refine ⟨T00, 0, (fun _ => 0), 0, (fun _ => 0), (0, (fun _ => 0), (fun _ => 0), (fun _ => 0)), (fun _ => (1, 0, 0)), ⟨⟨by decide, by decide, no0, no0, fun _ _ => Nat.zero_le 9, by decide⟩, ⟨by decide, no0⟩⟩, ⟨fun _ _ => rfl, no0, no0, no0, no0, no0, no0, no0, rfl, rfl, rfl⟩, ⟨⟨rfl, no0, no0⟩, ⟨rfl, no0, no0⟩⟩, ⟨?_, ?_, ?_⟩, ⟨rfl, no0, no0, no0⟩, ⟨⟨⟨rfl, no0, no0⟩, by decide⟩, ⟨⟨rfl, no0, no0⟩, by decide⟩, ?_, ?_, no0, no0, no0, no0, rfl, by decide, rfl⟩, ⟨rfl, no0, no0, no0⟩, fun s hs => ?_, rfl⟩
  · rw [hcn_0]; rfl
  · rw [flt_0]; rfl
  · rw [flt_0]; rfl
  · intro j _
    rw [hcn_0]; rfl
  · rw [bcn_0]; rfl
  · rcases (show s = 0 ∨ s = 1 ∨ s = 2 ∨ s = 3 by omega) with rfl | rfl | rfl | rfl
    · exact ⟨⟨rfl, rfl, rfl, by decide, by decide, by decide⟩, ⟨rfl, rfl, rfl, by decide, by decide, by decide⟩, fun _ _ => rfl⟩
    · exact ⟨⟨rfl, rfl, rfl, by decide, by decide, by decide⟩, ⟨rfl, rfl, rfl, by decide, by decide, by decide⟩, fun _ _ => rfl⟩
    · exact ⟨⟨rfl, rfl, rfl, by decide, by decide, by decide⟩, ⟨rfl, rfl, rfl, by decide, by decide, by decide⟩, fun _ _ => rfl⟩
    · exact ⟨⟨rfl, rfl, rfl, by decide, by decide, by decide⟩, ⟨rfl, rfl, rfl, by decide, by decide, by decide⟩, fun _ _ => rfl⟩
theorem shp_len : shp.length = 83 := rfl
theorem wld_is {ad : Nat → Nat} {tc : Nat → ClassId} {S : ST} {ws : va_W} (hl : ws.length = 83) (h : ∀ k, k < 83 → ∃ hk, shp[k]? = some hk ∧ ws[k]? = some (ad k, cel ad tc S k hk)) : ws = wld ad tc S := by
  apply List.ext_getElem?
  intro i
  by_cases hi : i < 83
  · obtain ⟨hk, h1, h2⟩ := h i hi
    rw [h2, wld_at S h1]
  · rw [List.getElem?_eq_none (by omega), List.getElem?_eq_none (by
      have : (wld ad tc S).length = shp.length := by simp [wld]
      rw [this, shp_len]; omega)]
def ad0 (b : Nat) (l : List Nat) : Nat → Nat := fun k => if k = 999 then b else l.getD k 0

/-! constructors -/
def PK (dC : Nat → ClassId) (dI : Nat → Nat → Nat) (tc : Nat → ClassId) (sz : Nat) (av : List Value) (ws : va_W) : Array Value → State → Prop := va_Pc av (fun U => U.heap.size = sz ∧ va_P (dC, dI) clss ws U.heap ∧ va_K (dC, dI) clss (tyl tc) U ∧ va_D (fun _ => True) ws ∧ va_AO "BoatNames$Sheet" U)
def QK (dC : Nat → ClassId) (dI : Nat → Nat → Nat) (tc : Nat → ClassId) (A : Nat → Prop) (B : va_W → Prop) : Array Value → State → Outcome → State → Prop := va_Qv (fun _ : Unit => True) (fun _ t => ∃ w, B w ∧ va_P (dC, dI) clss w t.heap ∧ va_K (dC, dI) clss (tyl tc) t ∧ va_D A w) A
theorem k_newa {p : Program} {l : Launch} {e : Env} {R : Room} {s : State} {m : MethodId} {args : Array Value} {below : List Frame} {meth : Method} {c : Code} {D : va_G} {tc : Nat → ClassId} {A : Nat → Prop} {H0 H : Heap} {locs : List Loc} {cells slots : Nat} {Q : State → Prop} {pc : Nat} {ls : Array Slot} {rest : List Value} {ws : va_W} {cc : ByteArray} (hexec : p.tables.exec = Jvm.exec) (hb : c.code = cc) {atype : ArrayType} {ty : FieldType} (hty : newarray.typeOf atype = ty) (i : Nat) (hi : (tyl tc)[i]? = some (tc i, ty)) (hRA : ∀ (U : State) (cA : ClassId), va_RA U cA ty → U.vm.findClass ("[" ++ ty.toString) = some cA) (harr : (Cond.arrayClass ty).before args s = true) (hK : va_K D clss (tyl tc) s) (hP : va_P D clss ws H) (hD : va_D A ws) (hS : va_S A H0 H locs) (hA : ∀ q, H0.size ≤ q → A q) {N : Nat} {a0 : vp_A} (ha : ∀ cA : ClassId, vp_cell cA a0 = arrV cA N (fun _ => defaultValue ty)) (hN : N < 4000) (hbytes : N * componentBytes ty ≤ 536870912) (hcells : cells + 1 ≤ R.cells) (hslots : slots + N ≤ R.slots) (hdg : decode cc pc = .ok (.newarray atype, 2)) (kk : ∀ (q : Nat) (H1 : Heap), va_P D clss (ws ++ [(q, .inl (tc i, a0))]) H1 → va_D A (ws ++ [(q, .inl (tc i, a0))]) → va_S A H0 H1 locs → W p l e R s m args below meth c H1 locs (cells + 1) (slots + N) Q (F0 m (pc + 2) ls (.ref q :: rest))) : W p l e R s m args below meth c H locs cells slots Q (F0 m pc ls (.int (nI N) :: rest)) := by
  refine va_newa hexec hb (by rw [hty]; exact harr) hty hK hP hD hS hA ha (Int32.not_lt.mpr (nI_pos' (by omega))) (nI_clamp (by omega)) hbytes hcells hslots hdg (fun q cA H1 hK1 hP1 hD1 hS1 => ?_)
  have e1 : s.vm.findClass ("[" ++ ty.toString) = some cA := hRA _ _ (hK1.2 4 (cA, ty) rfl).2
  have e2 : s.vm.findClass ("[" ++ ty.toString) = some (tc i) := hRA _ _ (hK.2 i _ hi).2
  have e3 : cA = tc i := Option.some.inj (e1.symm.trans e2)
  subst e3
  exact kk q H1 hP1 hD1 hS1
theorem k_newq {p : Program} {l : Launch} {e : Env} {R : Room} {s : State} {m : MethodId} {args : Array Value} {below : List Frame} {meth : Method} {c : Code} {D : va_G} {tc : Nat → ClassId} {A : Nat → Prop} {H0 H : Heap} {locs : List Loc} {cells slots : Nat} {Q : State → Prop} {pc : Nat} {ls : Array Slot} {rest : List Value} {ws : va_W} {cc : ByteArray} (hexec : p.tables.exec = Jvm.exec) (hb : c.code = cc) {own C : String} {index : Nat} (hown : s.vm.findClass own = some m.cls) (hclink : (Cond.classLink own index C).before args s = true) (hover : va_AO C s) (i : Nat) (hi : (tyl tc)[i]? = some (tc i, .object C)) (hK : va_K D clss (tyl tc) s) (hP : va_P D clss ws H) (hD : va_D A ws) (hS : va_S A H0 H locs) (hA : ∀ q, H0.size ≤ q → A q) {N : Nat} (hN : N < 4000) (hbytes : N * 4 ≤ 536870912) (hcells : cells + 1 ≤ R.cells) (hslots : slots + N ≤ R.slots) (hdg : decode cc pc = .ok (.anewarray index, 3)) (kk : ∀ (q : Nat) (H1 : Heap), va_P D clss (ws ++ [(q, .inl (tc i, N, .inr (.inr (.inr (.inr (fun _ => none))))))]) H1 → va_D A (ws ++ [(q, .inl (tc i, N, .inr (.inr (.inr (.inr (fun _ => none))))))]) → va_S A H0 H1 locs → W p l e R s m args below meth c H1 locs (cells + 1) (slots + N) Q (F0 m (pc + 3) ls (.ref q :: rest))) : W p l e R s m args below meth c H locs cells slots Q (F0 m pc ls (.int (nI N) :: rest)) := by
  refine va_newq hexec hb hown hclink hover hK hP hD hS hA (Int32.not_lt.mpr (nI_pos' (by omega))) (nI_clamp (by omega)) hbytes hcells hslots hdg (fun q cA H1 hK1 hP1 hD1 hS1 => ?_)
  obtain ⟨k1, c1, -, -, -, e1⟩ := (hK1.2 4 (cA, .object C) rfl).2
  obtain ⟨k2, c2, -, -, -, e2⟩ := (hK.2 i _ hi).2
  have e3 : cA = tc i := Option.some.inj (e1.symm.trans e2)
  subst e3
  exact kk q H1 hP1 hD1 hS1
theorem pk_blind {dC : Nat → ClassId} {dI : Nat → Nat → Nat} {tc : Nat → ClassId} {sz : Nat} {av : List Value} {ws : va_W} : FrameBlind (PK dC dI tc sz av ws) := fun a U g mk q => by
  obtain ⟨q0, q1, qP, qK, qD, qA⟩ := q
  exact ⟨q0, q1, qP, va_K.moved (u := U) (U := U.calling g mk a) (Vm.Alike.refl U.vm) qK, qD, va_AO.moved (u := U) (U := U.calling g mk a) (Vm.Alike.refl U.vm) qA⟩
def y_B : MethodName := ⟨"BoatNames$Best", "<init>", "()V"⟩
def w_B : List Cond := Cond.code y_B prog_2_method_1_code 1 none :: tbl
theorem gd_B : GoodIn tbl w_B := fun w hw => by
  rcases List.mem_cons.mp hw with rfl | h
  · exact gd_all _ (tbl_in (List.mem_of_getElem? (i := 181) (by decide +kernel)) rfl)
  · exact gd_all w h
def y_H : MethodName := ⟨"BoatNames$Sheet", "<init>", "()V"⟩
def w_H : List Cond := Cond.code y_H prog_3_method_1_code 1 none :: tbl
theorem gd_H : GoodIn tbl w_H := fun w hw => by
  rcases List.mem_cons.mp hw with rfl | h
  · exact gd_all _ (tbl_in (List.mem_of_getElem? (i := 197) (by decide +kernel)) rfl)
  · exact gd_all w h
def y_G : MethodName := ⟨"BoatNames$Sightings", "<init>", "()V"⟩
def w_G : List Cond := Cond.code y_G prog_4_method_1_code 1 none :: tbl
theorem gd_G : GoodIn tbl w_G := fun w hw => by
  rcases List.mem_cons.mp hw with rfl | h
  · exact gd_all _ (tbl_in (List.mem_of_getElem? (i := 161) (by decide +kernel)) rfl)
  · exact gd_all w h
def y_T : MethodName := ⟨"BoatNames$Telling", "<init>", "()V"⟩
def w_T : List Cond := Cond.code y_T prog_5_method_1_code 1 none :: tbl
theorem gd_T : GoodIn tbl w_T := fun w hw => by
  rcases List.mem_cons.mp hw with rfl | h
  · exact gd_all _ (tbl_in (List.mem_of_getElem? (i := 47) (by decide +kernel)) rfl)
  · exact gd_all w h
def y_X : MethodName := ⟨"BoatNames$Text", "<init>", "(I)V"⟩
def w_X : List Cond := Cond.code y_X prog_6_method_1_code 2 none :: tbl
theorem gd_X : GoodIn tbl w_X := fun w hw => by
  rcases List.mem_cons.mp hw with rfl | h
  · exact gd_all _ (tbl_in (List.mem_of_getElem? (i := 25) (by decide +kernel)) rfl)
  · exact gd_all w h
def y_V : MethodName := ⟨"BoatNames$Voyage", "<init>", "(LBoatNames$Telling;)V"⟩
def w_V : List Cond := Cond.code y_V prog_7_method_1_code 2 none :: tbl
theorem gd_V : GoodIn tbl w_V := fun w hw => by
  rcases List.mem_cons.mp hw with rfl | h
  · exact gd_all _ (tbl_in (List.mem_of_getElem? (i := 109) (by decide +kernel)) rfl)
  · exact gd_all w h
def y_N : MethodName := ⟨"BoatNames", "<init>", "()V"⟩
def w_N : List Cond := Cond.code y_N prog_1_method_1_code 2 none :: tbl
theorem gd_N : GoodIn tbl w_N := fun w hw => by
  rcases List.mem_cons.mp hw with rfl | h
  · exact gd_all _ (tbl_in (List.mem_of_getElem? (i := 17) (by decide +kernel)) rfl)
  · exact gd_all w h
def y_R : MethodName := ⟨"BoatNamesModel", "<init>", "()V"⟩
def w_R : List Cond := Cond.code y_R prog_9_method_1_code 1 none :: tbl
theorem gd_R : GoodIn tbl w_R := fun w hw => by
  rcases List.mem_cons.mp hw with rfl | h
  · exact gd_all _ (tbl_in (List.mem_of_getElem? (i := 722) (by decide +kernel)) rfl)
  · exact gd_all w h
set_option maxHeartbeats 4000000 in
set_option maxRecDepth 100000 in
theorem i_B (dC : Nat → ClassId) (dI : Nat → Nat → Nat) (tc : Nat → ClassId) (h0 : Nat) (l : Launch) (sz : Nat) : Met l y_B w_B ({ frames := 1, cells := 0, slots := 0, locals := 40 } : Room) (PK dC dI tc sz [.ref h0] [(h0, .inr (0, [.int 0, .int 0]))]) (QK dC dI tc (va_A [(h0, .inr (0, [.int 0, .int 0]))] sz) (fun w => w = [(h0, .inr (0, [.int (-1), .int 0]))])) 0 0 (va_A [(h0, .inr (0, [.int 0, .int 0]))] sz) := by
  refine Met.ofW (cc := prog_2_method_1_code) (maxL := 1) (ret := none) (by decide) rfl ?_
  intro p e s m args below meth c s₁ B hml hv
  obtain ⟨rfl, hsz, hP, hK, hD0, hAO⟩ := hv
  have hx := B.exec
  have hb := B.bytes
  have hr := B.returns
  have hts0 := atoms_spec (ws := w_B) B.pre
  have hts : ∀ w ∈ tbl, w.before _ s = true := fun w hw => hts0 w (List.mem_cons_of_mem _ hw)
  have hown : s.vm.findClass "BoatNames$Best" = some m.cls := findClass_of_methodNamed B.named
  have hin : meth.name = "<init>" := (name_of_methodNamed B.named B.method).1
  subst hsz
  have hD := hD0.self (sz := s.heap.size)
  generalize hAe : va_A [(h0, .inr (0, [.int 0, .int 0]))] s.heap.size = A at hD ⊢
  have hA : ∀ q : Nat, s.heap.size ≤ q → A q := fun q h => by rw [← hAe]; exact Or.inr h
  have hS : va_S A s.heap s.heap [] := va_S.rf
  have hl := lv_entry ([.ref h0]) (n := 1) (Nat.le_of_ble_eq_true rfl)
  rw [lg_entry_eq]
  generalize (lg_sl ([.ref h0]) ++ List.replicate (1 - (lg_sl ([.ref h0])).length) Slot.unset).toArray = ls at hl ⊢
  have hl : lv_has ls 1 [(0, .ref h0)] := hl
  have hP : va_P (dC, dI) clss [(h0, .inr (0, [.int 0, .int 0]))] s.heap := hP
  refine lv_aload_n hx hb (show decode prog_2_method_1_code 0 = .ok (.aload_n 0, 1) by decide +kernel) rfl (lv_at hl 0 rfl) ?_
  refine W.objInit hx hb hown (hts _ (tbl_in (List.mem_of_getElem? (i := 182) (by decide +kernel)) rfl)) (hts _ (tbl_in (List.mem_of_getElem? (i := 19) (by decide +kernel)) rfl)) (hts _ (tbl_in (List.mem_of_getElem? (i := 20) (by decide +kernel)) rfl)) rfl (by rw [hml]; exact hl.1) rfl (show decode prog_2_method_1_code 1 = .ok (.invokespecial 3, 3) by decide +kernel) (Nat.le_of_ble_eq_true rfl) (Nat.le_of_ble_eq_true rfl) ?_
  refine W.eq (g2 := F0 m 4 ls []) rfl ?_
  refine lv_aload_n hx hb (show decode prog_2_method_1_code 4 = .ok (.aload_n 0, 1) by decide +kernel) rfl (lv_at hl 0 rfl) ?_
  refine lv_iconst (v := (-1)) hx hb (show decode prog_2_method_1_code 5 = .ok (.iconst (-1), 1) by decide +kernel) (by decide) ?_
  refine va_put (D := (dC, dI)) (ci := 0) (v := .int (-1)) (ty := yX0 0) (C := "BoatNames$Best") (T := tX0) (N := 2) hx hb hts (cls_ok 0 _ rfl).1 yX0 yX0_ok nX0 hown hK hP hD hS 0 rfl rfl 0 (by decide) (hts _ (tbl_in (List.mem_of_getElem? (i := 183) (by decide +kernel)) rfl)) (fun _ h9 => h9) rfl (yX0_ok 0 (by decide)) (by first | rfl | decide) rfl (Nat.le_of_ble_eq_true rfl) (show decode prog_2_method_1_code 6 = .ok (.putfield 9, 3) by decide +kernel) (fun H locs hP hD hS => ?_)
  have hP : va_P (dC, dI) clss [(h0, .inr (0, [.int (-1), .int 0]))] H := hP
  have hD : va_D A [(h0, .inr (0, [.int (-1), .int 0]))] := hD
  refine lv_aload_n hx hb (show decode prog_2_method_1_code 9 = .ok (.aload_n 0, 1) by decide +kernel) rfl (lv_at hl 0 rfl) ?_
  refine lv_iconst (v := 0) hx hb (show decode prog_2_method_1_code 10 = .ok (.iconst 0, 1) by decide +kernel) (by decide) ?_
  refine va_put (D := (dC, dI)) (ci := 0) (v := .int 0) (ty := yX0 1) (C := "BoatNames$Best") (T := tX0) (N := 2) hx hb hts (cls_ok 0 _ rfl).1 yX0 yX0_ok nX0 hown hK hP hD hS 0 rfl rfl 1 (by decide) (hts _ (tbl_in (List.mem_of_getElem? (i := 185) (by decide +kernel)) rfl)) (fun _ h9 => h9) rfl (yX0_ok 1 (by decide)) (by first | rfl | decide) rfl (Nat.le_of_ble_eq_true rfl) (show decode prog_2_method_1_code 11 = .ok (.putfield 15, 3) by decide +kernel) (fun H locs hP hD hS => ?_)
  have hP : va_P (dC, dI) clss [(h0, .inr (0, [.int (-1), .int 0]))] H := hP
  have hD : va_D A [(h0, .inr (0, [.int (-1), .int 0]))] := hD
  exact W.vret hx hb hr (fun t ht hW => ⟨⟨(), rfl, trivial, _, rfl, by rw [ht]; exact hP, va_K.moved hW.alike hK, hD⟩, hS.F ht⟩) hS.2.2 (show decode prog_2_method_1_code 14 = .ok (.return_, 1) by decide +kernel)
set_option maxHeartbeats 4000000 in
set_option maxRecDepth 100000 in
theorem i_H (dC : Nat → ClassId) (dI : Nat → Nat → Nat) (tc : Nat → ClassId) (h0 : Nat) (l : Launch) (sz : Nat) : Met l y_H w_H ({ frames := 1, cells := 1, slots := 60, locals := 40 } : Room) (PK dC dI tc sz [.ref h0] [(h0, .inr (1, [.null, .int 0, .int 0, .int 0]))]) (QK dC dI tc (va_A [(h0, .inr (1, [.null, .int 0, .int 0, .int 0]))] sz) (fun w => ∃ q1 : Nat, w = [(h0, .inr (1, [.ref q1, .int 0, .int 0, .int 1])), (q1, .inl (tc 0, 60, .inl (fun _ => 0)))])) 1 60 (va_A [(h0, .inr (1, [.null, .int 0, .int 0, .int 0]))] sz) := by
  refine Met.ofW (cc := prog_3_method_1_code) (maxL := 1) (ret := none) (by decide) rfl ?_
  intro p e s m args below meth c s₁ B hml hv
  obtain ⟨rfl, hsz, hP, hK, hD0, hAO⟩ := hv
  have hx := B.exec
  have hb := B.bytes
  have hr := B.returns
  have hts0 := atoms_spec (ws := w_H) B.pre
  have hts : ∀ w ∈ tbl, w.before _ s = true := fun w hw => hts0 w (List.mem_cons_of_mem _ hw)
  have hown : s.vm.findClass "BoatNames$Sheet" = some m.cls := findClass_of_methodNamed B.named
  have hin : meth.name = "<init>" := (name_of_methodNamed B.named B.method).1
  subst hsz
  have hD := hD0.self (sz := s.heap.size)
  generalize hAe : va_A [(h0, .inr (1, [.null, .int 0, .int 0, .int 0]))] s.heap.size = A at hD ⊢
  have hA : ∀ q : Nat, s.heap.size ≤ q → A q := fun q h => by rw [← hAe]; exact Or.inr h
  have hS : va_S A s.heap s.heap [] := va_S.rf
  have hl := lv_entry ([.ref h0]) (n := 1) (Nat.le_of_ble_eq_true rfl)
  rw [lg_entry_eq]
  generalize (lg_sl ([.ref h0]) ++ List.replicate (1 - (lg_sl ([.ref h0])).length) Slot.unset).toArray = ls at hl ⊢
  have hl : lv_has ls 1 [(0, .ref h0)] := hl
  have hP : va_P (dC, dI) clss [(h0, .inr (1, [.null, .int 0, .int 0, .int 0]))] s.heap := hP
  refine lv_aload_n hx hb (show decode prog_3_method_1_code 0 = .ok (.aload_n 0, 1) by decide +kernel) rfl (lv_at hl 0 rfl) ?_
  refine W.objInit hx hb hown (hts _ (tbl_in (List.mem_of_getElem? (i := 198) (by decide +kernel)) rfl)) (hts _ (tbl_in (List.mem_of_getElem? (i := 19) (by decide +kernel)) rfl)) (hts _ (tbl_in (List.mem_of_getElem? (i := 20) (by decide +kernel)) rfl)) rfl (by rw [hml]; exact hl.1) rfl (show decode prog_3_method_1_code 1 = .ok (.invokespecial 3, 3) by decide +kernel) (Nat.le_of_ble_eq_true rfl) (Nat.le_of_ble_eq_true rfl) ?_
  refine W.eq (g2 := F0 m 4 ls []) rfl ?_
  refine lv_aload_n hx hb (show decode prog_3_method_1_code 4 = .ok (.aload_n 0, 1) by decide +kernel) rfl (lv_at hl 0 rfl) ?_
  refine lv_bipush (v := (nI 60)) hx hb (show decode prog_3_method_1_code 5 = .ok (.bipush 60, 2) by decide +kernel) (by decide) ?_
  refine k_newa (atype := .int) (ty := .int) (N := 60) (a0 := (60, .inl (fun _ => 0))) hx hb rfl 0 rfl (fun _ _ h => h) (hts _ (tbl_in (List.mem_of_getElem? (i := 42) (by decide +kernel)) rfl)) hK hP hD hS hA (fun _ => rfl) (by decide) (by decide) (Nat.le_of_ble_eq_true rfl) (Nat.le_of_ble_eq_true rfl) (show decode prog_3_method_1_code 7 = .ok (.newarray .int, 2) by decide +kernel) (fun q1 H hP hD hS => ?_)
  have hP : va_P (dC, dI) clss [(h0, .inr (1, [.null, .int 0, .int 0, .int 0])), (q1, .inl (tc 0, 60, .inl (fun _ => 0)))] H := hP
  have hD : va_D A [(h0, .inr (1, [.null, .int 0, .int 0, .int 0])), (q1, .inl (tc 0, 60, .inl (fun _ => 0)))] := hD
  refine va_putF (D := (dC, dI)) (ci := 1) (v := .ref q1) (ty := yX1 0) (C := "BoatNames$Sheet") (T := tX1) (N := 4) hx hb hts (cls_ok 1 _ rfl).1 yX1 yX1_ok nX1 hown hK hP hD hS 0 rfl rfl 0 (by decide) (hts _ (tbl_in (List.mem_of_getElem? (i := 199) (by decide +kernel)) rfl)) (fun _ h9 => h9) rfl hin rfl (yX1_ok 0 (by decide)) (by first | rfl | decide) rfl (Nat.le_of_ble_eq_true rfl) (show decode prog_3_method_1_code 9 = .ok (.putfield 9, 3) by decide +kernel) (fun H locs hP hD hS => ?_)
  have hP : va_P (dC, dI) clss [(h0, .inr (1, [.ref q1, .int 0, .int 0, .int 0])), (q1, .inl (tc 0, 60, .inl (fun _ => 0)))] H := hP
  have hD : va_D A [(h0, .inr (1, [.ref q1, .int 0, .int 0, .int 0])), (q1, .inl (tc 0, 60, .inl (fun _ => 0)))] := hD
  refine lv_aload_n hx hb (show decode prog_3_method_1_code 12 = .ok (.aload_n 0, 1) by decide +kernel) rfl (lv_at hl 0 rfl) ?_
  refine lv_iconst (v := 0) hx hb (show decode prog_3_method_1_code 13 = .ok (.iconst 0, 1) by decide +kernel) (by decide) ?_
  refine va_put (D := (dC, dI)) (ci := 1) (v := .int 0) (ty := yX1 1) (C := "BoatNames$Sheet") (T := tX1) (N := 4) hx hb hts (cls_ok 1 _ rfl).1 yX1 yX1_ok nX1 hown hK hP hD hS 0 rfl rfl 1 (by decide) (hts _ (tbl_in (List.mem_of_getElem? (i := 201) (by decide +kernel)) rfl)) (fun _ h9 => h9) rfl (yX1_ok 1 (by decide)) (by first | rfl | decide) rfl (Nat.le_of_ble_eq_true rfl) (show decode prog_3_method_1_code 14 = .ok (.putfield 15, 3) by decide +kernel) (fun H locs hP hD hS => ?_)
  have hP : va_P (dC, dI) clss [(h0, .inr (1, [.ref q1, .int 0, .int 0, .int 0])), (q1, .inl (tc 0, 60, .inl (fun _ => 0)))] H := hP
  have hD : va_D A [(h0, .inr (1, [.ref q1, .int 0, .int 0, .int 0])), (q1, .inl (tc 0, 60, .inl (fun _ => 0)))] := hD
  refine lv_aload_n hx hb (show decode prog_3_method_1_code 17 = .ok (.aload_n 0, 1) by decide +kernel) rfl (lv_at hl 0 rfl) ?_
  refine lv_iconst (v := 0) hx hb (show decode prog_3_method_1_code 18 = .ok (.iconst 0, 1) by decide +kernel) (by decide) ?_
  refine va_put (D := (dC, dI)) (ci := 1) (v := .int 0) (ty := yX1 2) (C := "BoatNames$Sheet") (T := tX1) (N := 4) hx hb hts (cls_ok 1 _ rfl).1 yX1 yX1_ok nX1 hown hK hP hD hS 0 rfl rfl 2 (by decide) (hts _ (tbl_in (List.mem_of_getElem? (i := 203) (by decide +kernel)) rfl)) (fun _ h9 => h9) rfl (yX1_ok 2 (by decide)) (by first | rfl | decide) rfl (Nat.le_of_ble_eq_true rfl) (show decode prog_3_method_1_code 19 = .ok (.putfield 19, 3) by decide +kernel) (fun H locs hP hD hS => ?_)
  have hP : va_P (dC, dI) clss [(h0, .inr (1, [.ref q1, .int 0, .int 0, .int 0])), (q1, .inl (tc 0, 60, .inl (fun _ => 0)))] H := hP
  have hD : va_D A [(h0, .inr (1, [.ref q1, .int 0, .int 0, .int 0])), (q1, .inl (tc 0, 60, .inl (fun _ => 0)))] := hD
  refine lv_aload_n hx hb (show decode prog_3_method_1_code 22 = .ok (.aload_n 0, 1) by decide +kernel) rfl (lv_at hl 0 rfl) ?_
  refine lv_iconst (v := 1) hx hb (show decode prog_3_method_1_code 23 = .ok (.iconst 1, 1) by decide +kernel) (by decide) ?_
  refine va_put (D := (dC, dI)) (ci := 1) (v := .int 1) (ty := yX1 3) (C := "BoatNames$Sheet") (T := tX1) (N := 4) hx hb hts (cls_ok 1 _ rfl).1 yX1 yX1_ok nX1 hown hK hP hD hS 0 rfl rfl 3 (by decide) (hts _ (tbl_in (List.mem_of_getElem? (i := 205) (by decide +kernel)) rfl)) (fun _ h9 => h9) rfl (yX1_ok 3 (by decide)) (by first | rfl | decide) rfl (Nat.le_of_ble_eq_true rfl) (show decode prog_3_method_1_code 24 = .ok (.putfield 22, 3) by decide +kernel) (fun H locs hP hD hS => ?_)
  have hP : va_P (dC, dI) clss [(h0, .inr (1, [.ref q1, .int 0, .int 0, .int 1])), (q1, .inl (tc 0, 60, .inl (fun _ => 0)))] H := hP
  have hD : va_D A [(h0, .inr (1, [.ref q1, .int 0, .int 0, .int 1])), (q1, .inl (tc 0, 60, .inl (fun _ => 0)))] := hD
  exact W.vret hx hb hr (fun t ht hW => ⟨⟨(), rfl, trivial, _, ⟨q1, rfl⟩, by rw [ht]; exact hP, va_K.moved hW.alike hK, hD⟩, hS.F ht⟩) hS.2.2 (show decode prog_3_method_1_code 27 = .ok (.return_, 1) by decide +kernel)
set_option maxHeartbeats 4000000 in
set_option maxRecDepth 100000 in
theorem i_G (dC : Nat → ClassId) (dI : Nat → Nat → Nat) (tc : Nat → ClassId) (h0 : Nat) (l : Launch) (sz : Nat) : Met l y_G w_G ({ frames := 1, cells := 3, slots := 24, locals := 40 } : Room) (PK dC dI tc sz [.ref h0] [(h0, .inr (2, [.null, .null, .null, .int 0]))]) (QK dC dI tc (va_A [(h0, .inr (2, [.null, .null, .null, .int 0]))] sz) (fun w => ∃ q1 q2 q3 : Nat, w = [(h0, .inr (2, [.ref q1, .ref q2, .ref q3, .int 0])), (q1, .inl (tc 0, 8, .inl (fun _ => 0))), (q2, .inl (tc 0, 8, .inl (fun _ => 0))), (q3, .inl (tc 0, 8, .inl (fun _ => 0)))])) 3 24 (va_A [(h0, .inr (2, [.null, .null, .null, .int 0]))] sz) := by
  refine Met.ofW (cc := prog_4_method_1_code) (maxL := 1) (ret := none) (by decide) rfl ?_
  intro p e s m args below meth c s₁ B hml hv
  obtain ⟨rfl, hsz, hP, hK, hD0, hAO⟩ := hv
  have hx := B.exec
  have hb := B.bytes
  have hr := B.returns
  have hts0 := atoms_spec (ws := w_G) B.pre
  have hts : ∀ w ∈ tbl, w.before _ s = true := fun w hw => hts0 w (List.mem_cons_of_mem _ hw)
  have hown : s.vm.findClass "BoatNames$Sightings" = some m.cls := findClass_of_methodNamed B.named
  have hin : meth.name = "<init>" := (name_of_methodNamed B.named B.method).1
  subst hsz
  have hD := hD0.self (sz := s.heap.size)
  generalize hAe : va_A [(h0, .inr (2, [.null, .null, .null, .int 0]))] s.heap.size = A at hD ⊢
  have hA : ∀ q : Nat, s.heap.size ≤ q → A q := fun q h => by rw [← hAe]; exact Or.inr h
  have hS : va_S A s.heap s.heap [] := va_S.rf
  have hl := lv_entry ([.ref h0]) (n := 1) (Nat.le_of_ble_eq_true rfl)
  rw [lg_entry_eq]
  generalize (lg_sl ([.ref h0]) ++ List.replicate (1 - (lg_sl ([.ref h0])).length) Slot.unset).toArray = ls at hl ⊢
  have hl : lv_has ls 1 [(0, .ref h0)] := hl
  have hP : va_P (dC, dI) clss [(h0, .inr (2, [.null, .null, .null, .int 0]))] s.heap := hP
  refine lv_aload_n hx hb (show decode prog_4_method_1_code 0 = .ok (.aload_n 0, 1) by decide +kernel) rfl (lv_at hl 0 rfl) ?_
  refine W.objInit hx hb hown (hts _ (tbl_in (List.mem_of_getElem? (i := 162) (by decide +kernel)) rfl)) (hts _ (tbl_in (List.mem_of_getElem? (i := 19) (by decide +kernel)) rfl)) (hts _ (tbl_in (List.mem_of_getElem? (i := 20) (by decide +kernel)) rfl)) rfl (by rw [hml]; exact hl.1) rfl (show decode prog_4_method_1_code 1 = .ok (.invokespecial 3, 3) by decide +kernel) (Nat.le_of_ble_eq_true rfl) (Nat.le_of_ble_eq_true rfl) ?_
  refine W.eq (g2 := F0 m 4 ls []) rfl ?_
  refine lv_aload_n hx hb (show decode prog_4_method_1_code 4 = .ok (.aload_n 0, 1) by decide +kernel) rfl (lv_at hl 0 rfl) ?_
  refine lv_bipush (v := (nI 8)) hx hb (show decode prog_4_method_1_code 5 = .ok (.bipush 8, 2) by decide +kernel) (by decide) ?_
  refine k_newa (atype := .int) (ty := .int) (N := 8) (a0 := (8, .inl (fun _ => 0))) hx hb rfl 0 rfl (fun _ _ h => h) (hts _ (tbl_in (List.mem_of_getElem? (i := 42) (by decide +kernel)) rfl)) hK hP hD hS hA (fun _ => rfl) (by decide) (by decide) (Nat.le_of_ble_eq_true rfl) (Nat.le_of_ble_eq_true rfl) (show decode prog_4_method_1_code 7 = .ok (.newarray .int, 2) by decide +kernel) (fun q1 H hP hD hS => ?_)
  have hP : va_P (dC, dI) clss [(h0, .inr (2, [.null, .null, .null, .int 0])), (q1, .inl (tc 0, 8, .inl (fun _ => 0)))] H := hP
  have hD : va_D A [(h0, .inr (2, [.null, .null, .null, .int 0])), (q1, .inl (tc 0, 8, .inl (fun _ => 0)))] := hD
  refine va_putF (D := (dC, dI)) (ci := 2) (v := .ref q1) (ty := yX2 0) (C := "BoatNames$Sightings") (T := tX2) (N := 4) hx hb hts (cls_ok 2 _ rfl).1 yX2 yX2_ok nX2 hown hK hP hD hS 0 rfl rfl 0 (by decide) (hts _ (tbl_in (List.mem_of_getElem? (i := 163) (by decide +kernel)) rfl)) (fun _ h9 => h9) rfl hin rfl (yX2_ok 0 (by decide)) (by first | rfl | decide) rfl (Nat.le_of_ble_eq_true rfl) (show decode prog_4_method_1_code 9 = .ok (.putfield 9, 3) by decide +kernel) (fun H locs hP hD hS => ?_)
  have hP : va_P (dC, dI) clss [(h0, .inr (2, [.ref q1, .null, .null, .int 0])), (q1, .inl (tc 0, 8, .inl (fun _ => 0)))] H := hP
  have hD : va_D A [(h0, .inr (2, [.ref q1, .null, .null, .int 0])), (q1, .inl (tc 0, 8, .inl (fun _ => 0)))] := hD
  refine lv_aload_n hx hb (show decode prog_4_method_1_code 12 = .ok (.aload_n 0, 1) by decide +kernel) rfl (lv_at hl 0 rfl) ?_
  refine lv_bipush (v := (nI 8)) hx hb (show decode prog_4_method_1_code 13 = .ok (.bipush 8, 2) by decide +kernel) (by decide) ?_
  refine k_newa (atype := .int) (ty := .int) (N := 8) (a0 := (8, .inl (fun _ => 0))) hx hb rfl 0 rfl (fun _ _ h => h) (hts _ (tbl_in (List.mem_of_getElem? (i := 42) (by decide +kernel)) rfl)) hK hP hD hS hA (fun _ => rfl) (by decide) (by decide) (Nat.le_of_ble_eq_true rfl) (Nat.le_of_ble_eq_true rfl) (show decode prog_4_method_1_code 15 = .ok (.newarray .int, 2) by decide +kernel) (fun q2 H hP hD hS => ?_)
  have hP : va_P (dC, dI) clss [(h0, .inr (2, [.ref q1, .null, .null, .int 0])), (q1, .inl (tc 0, 8, .inl (fun _ => 0))), (q2, .inl (tc 0, 8, .inl (fun _ => 0)))] H := hP
  have hD : va_D A [(h0, .inr (2, [.ref q1, .null, .null, .int 0])), (q1, .inl (tc 0, 8, .inl (fun _ => 0))), (q2, .inl (tc 0, 8, .inl (fun _ => 0)))] := hD
  refine va_putF (D := (dC, dI)) (ci := 2) (v := .ref q2) (ty := yX2 1) (C := "BoatNames$Sightings") (T := tX2) (N := 4) hx hb hts (cls_ok 2 _ rfl).1 yX2 yX2_ok nX2 hown hK hP hD hS 0 rfl rfl 1 (by decide) (hts _ (tbl_in (List.mem_of_getElem? (i := 164) (by decide +kernel)) rfl)) (fun _ h9 => h9) rfl hin rfl (yX2_ok 1 (by decide)) (by first | rfl | decide) rfl (Nat.le_of_ble_eq_true rfl) (show decode prog_4_method_1_code 17 = .ok (.putfield 15, 3) by decide +kernel) (fun H locs hP hD hS => ?_)
  have hP : va_P (dC, dI) clss [(h0, .inr (2, [.ref q1, .ref q2, .null, .int 0])), (q1, .inl (tc 0, 8, .inl (fun _ => 0))), (q2, .inl (tc 0, 8, .inl (fun _ => 0)))] H := hP
  have hD : va_D A [(h0, .inr (2, [.ref q1, .ref q2, .null, .int 0])), (q1, .inl (tc 0, 8, .inl (fun _ => 0))), (q2, .inl (tc 0, 8, .inl (fun _ => 0)))] := hD
  refine lv_aload_n hx hb (show decode prog_4_method_1_code 20 = .ok (.aload_n 0, 1) by decide +kernel) rfl (lv_at hl 0 rfl) ?_
  refine lv_bipush (v := (nI 8)) hx hb (show decode prog_4_method_1_code 21 = .ok (.bipush 8, 2) by decide +kernel) (by decide) ?_
  refine k_newa (atype := .int) (ty := .int) (N := 8) (a0 := (8, .inl (fun _ => 0))) hx hb rfl 0 rfl (fun _ _ h => h) (hts _ (tbl_in (List.mem_of_getElem? (i := 42) (by decide +kernel)) rfl)) hK hP hD hS hA (fun _ => rfl) (by decide) (by decide) (Nat.le_of_ble_eq_true rfl) (Nat.le_of_ble_eq_true rfl) (show decode prog_4_method_1_code 23 = .ok (.newarray .int, 2) by decide +kernel) (fun q3 H hP hD hS => ?_)
  have hP : va_P (dC, dI) clss [(h0, .inr (2, [.ref q1, .ref q2, .null, .int 0])), (q1, .inl (tc 0, 8, .inl (fun _ => 0))), (q2, .inl (tc 0, 8, .inl (fun _ => 0))), (q3, .inl (tc 0, 8, .inl (fun _ => 0)))] H := hP
  have hD : va_D A [(h0, .inr (2, [.ref q1, .ref q2, .null, .int 0])), (q1, .inl (tc 0, 8, .inl (fun _ => 0))), (q2, .inl (tc 0, 8, .inl (fun _ => 0))), (q3, .inl (tc 0, 8, .inl (fun _ => 0)))] := hD
  refine va_putF (D := (dC, dI)) (ci := 2) (v := .ref q3) (ty := yX2 2) (C := "BoatNames$Sightings") (T := tX2) (N := 4) hx hb hts (cls_ok 2 _ rfl).1 yX2 yX2_ok nX2 hown hK hP hD hS 0 rfl rfl 2 (by decide) (hts _ (tbl_in (List.mem_of_getElem? (i := 165) (by decide +kernel)) rfl)) (fun _ h9 => h9) rfl hin rfl (yX2_ok 2 (by decide)) (by first | rfl | decide) rfl (Nat.le_of_ble_eq_true rfl) (show decode prog_4_method_1_code 25 = .ok (.putfield 18, 3) by decide +kernel) (fun H locs hP hD hS => ?_)
  have hP : va_P (dC, dI) clss [(h0, .inr (2, [.ref q1, .ref q2, .ref q3, .int 0])), (q1, .inl (tc 0, 8, .inl (fun _ => 0))), (q2, .inl (tc 0, 8, .inl (fun _ => 0))), (q3, .inl (tc 0, 8, .inl (fun _ => 0)))] H := hP
  have hD : va_D A [(h0, .inr (2, [.ref q1, .ref q2, .ref q3, .int 0])), (q1, .inl (tc 0, 8, .inl (fun _ => 0))), (q2, .inl (tc 0, 8, .inl (fun _ => 0))), (q3, .inl (tc 0, 8, .inl (fun _ => 0)))] := hD
  refine lv_aload_n hx hb (show decode prog_4_method_1_code 28 = .ok (.aload_n 0, 1) by decide +kernel) rfl (lv_at hl 0 rfl) ?_
  refine lv_iconst (v := 0) hx hb (show decode prog_4_method_1_code 29 = .ok (.iconst 0, 1) by decide +kernel) (by decide) ?_
  refine va_put (D := (dC, dI)) (ci := 2) (v := .int 0) (ty := yX2 3) (C := "BoatNames$Sightings") (T := tX2) (N := 4) hx hb hts (cls_ok 2 _ rfl).1 yX2 yX2_ok nX2 hown hK hP hD hS 0 rfl rfl 3 (by decide) (hts _ (tbl_in (List.mem_of_getElem? (i := 166) (by decide +kernel)) rfl)) (fun _ h9 => h9) rfl (yX2_ok 3 (by decide)) (by first | rfl | decide) rfl (Nat.le_of_ble_eq_true rfl) (show decode prog_4_method_1_code 30 = .ok (.putfield 21, 3) by decide +kernel) (fun H locs hP hD hS => ?_)
  have hP : va_P (dC, dI) clss [(h0, .inr (2, [.ref q1, .ref q2, .ref q3, .int 0])), (q1, .inl (tc 0, 8, .inl (fun _ => 0))), (q2, .inl (tc 0, 8, .inl (fun _ => 0))), (q3, .inl (tc 0, 8, .inl (fun _ => 0)))] H := hP
  have hD : va_D A [(h0, .inr (2, [.ref q1, .ref q2, .ref q3, .int 0])), (q1, .inl (tc 0, 8, .inl (fun _ => 0))), (q2, .inl (tc 0, 8, .inl (fun _ => 0))), (q3, .inl (tc 0, 8, .inl (fun _ => 0)))] := hD
  exact W.vret hx hb hr (fun t ht hW => ⟨⟨(), rfl, trivial, _, ⟨q1, q2, q3, rfl⟩, by rw [ht]; exact hP, va_K.moved hW.alike hK, hD⟩, hS.F ht⟩) hS.2.2 (show decode prog_4_method_1_code 33 = .ok (.return_, 1) by decide +kernel)
set_option maxHeartbeats 4000000 in
set_option maxRecDepth 100000 in
theorem i_T (dC : Nat → ClassId) (dI : Nat → Nat → Nat) (tc : Nat → ClassId) (h0 : Nat) (l : Launch) (sz : Nat) : Met l y_T w_T ({ frames := 1, cells := 8, slots := 123, locals := 40 } : Room) (PK dC dI tc sz [.ref h0] [(h0, .inr (3, [.null, .int 0, .null, .null, .null, .null, .int 0, .null, .null, .null, .int 0, .int 0]))]) (QK dC dI tc (va_A [(h0, .inr (3, [.null, .int 0, .null, .null, .null, .null, .int 0, .null, .null, .null, .int 0, .int 0]))] sz) (fun w => ∃ q1 q2 q3 q4 q5 q6 q7 q8 : Nat, w = [(h0, .inr (3, [.ref q1, .int 0, .ref q2, .ref q3, .ref q4, .ref q5, .int 0, .ref q6, .ref q7, .ref q8, .int 0, .int 0])), (q1, .inl (tc 0, 64, .inl (fun _ => 0))), (q2, .inl (tc 0, 8, .inl (fun _ => 0))), (q3, .inl (tc 0, 8, .inl (fun _ => 0))), (q4, .inl (tc 0, 8, .inl (fun _ => 0))), (q5, .inl (tc 0, 8, .inl (fun _ => 0))), (q6, .inl (tc 0, 9, .inl (fun _ => 0))), (q7, .inl (tc 0, 9, .inl (fun _ => 0))), (q8, .inl (tc 0, 9, .inl (fun _ => 0)))])) 8 123 (va_A [(h0, .inr (3, [.null, .int 0, .null, .null, .null, .null, .int 0, .null, .null, .null, .int 0, .int 0]))] sz) := by
  refine Met.ofW (cc := prog_5_method_1_code) (maxL := 1) (ret := none) (by decide) rfl ?_
  intro p e s m args below meth c s₁ B hml hv
  obtain ⟨rfl, hsz, hP, hK, hD0, hAO⟩ := hv
  have hx := B.exec
  have hb := B.bytes
  have hr := B.returns
  have hts0 := atoms_spec (ws := w_T) B.pre
  have hts : ∀ w ∈ tbl, w.before _ s = true := fun w hw => hts0 w (List.mem_cons_of_mem _ hw)
  have hown : s.vm.findClass "BoatNames$Telling" = some m.cls := findClass_of_methodNamed B.named
  have hin : meth.name = "<init>" := (name_of_methodNamed B.named B.method).1
  subst hsz
  have hD := hD0.self (sz := s.heap.size)
  generalize hAe : va_A [(h0, .inr (3, [.null, .int 0, .null, .null, .null, .null, .int 0, .null, .null, .null, .int 0, .int 0]))] s.heap.size = A at hD ⊢
  have hA : ∀ q : Nat, s.heap.size ≤ q → A q := fun q h => by rw [← hAe]; exact Or.inr h
  have hS : va_S A s.heap s.heap [] := va_S.rf
  have hl := lv_entry ([.ref h0]) (n := 1) (Nat.le_of_ble_eq_true rfl)
  rw [lg_entry_eq]
  generalize (lg_sl ([.ref h0]) ++ List.replicate (1 - (lg_sl ([.ref h0])).length) Slot.unset).toArray = ls at hl ⊢
  have hl : lv_has ls 1 [(0, .ref h0)] := hl
  have hP : va_P (dC, dI) clss [(h0, .inr (3, [.null, .int 0, .null, .null, .null, .null, .int 0, .null, .null, .null, .int 0, .int 0]))] s.heap := hP
  refine lv_aload_n hx hb (show decode prog_5_method_1_code 0 = .ok (.aload_n 0, 1) by decide +kernel) rfl (lv_at hl 0 rfl) ?_
  refine W.objInit hx hb hown (hts _ (tbl_in (List.mem_of_getElem? (i := 48) (by decide +kernel)) rfl)) (hts _ (tbl_in (List.mem_of_getElem? (i := 19) (by decide +kernel)) rfl)) (hts _ (tbl_in (List.mem_of_getElem? (i := 20) (by decide +kernel)) rfl)) rfl (by rw [hml]; exact hl.1) rfl (show decode prog_5_method_1_code 1 = .ok (.invokespecial 3, 3) by decide +kernel) (Nat.le_of_ble_eq_true rfl) (Nat.le_of_ble_eq_true rfl) ?_
  refine W.eq (g2 := F0 m 4 ls []) rfl ?_
  refine lv_aload_n hx hb (show decode prog_5_method_1_code 4 = .ok (.aload_n 0, 1) by decide +kernel) rfl (lv_at hl 0 rfl) ?_
  refine lv_bipush (v := (nI 64)) hx hb (show decode prog_5_method_1_code 5 = .ok (.bipush 64, 2) by decide +kernel) (by decide) ?_
  refine k_newa (atype := .int) (ty := .int) (N := 64) (a0 := (64, .inl (fun _ => 0))) hx hb rfl 0 rfl (fun _ _ h => h) (hts _ (tbl_in (List.mem_of_getElem? (i := 42) (by decide +kernel)) rfl)) hK hP hD hS hA (fun _ => rfl) (by decide) (by decide) (Nat.le_of_ble_eq_true rfl) (Nat.le_of_ble_eq_true rfl) (show decode prog_5_method_1_code 7 = .ok (.newarray .int, 2) by decide +kernel) (fun q1 H hP hD hS => ?_)
  have hP : va_P (dC, dI) clss [(h0, .inr (3, [.null, .int 0, .null, .null, .null, .null, .int 0, .null, .null, .null, .int 0, .int 0])), (q1, .inl (tc 0, 64, .inl (fun _ => 0)))] H := hP
  have hD : va_D A [(h0, .inr (3, [.null, .int 0, .null, .null, .null, .null, .int 0, .null, .null, .null, .int 0, .int 0])), (q1, .inl (tc 0, 64, .inl (fun _ => 0)))] := hD
  refine va_putF (D := (dC, dI)) (ci := 3) (v := .ref q1) (ty := yX3 0) (C := "BoatNames$Telling") (T := tX3) (N := 12) hx hb hts (cls_ok 3 _ rfl).1 yX3 yX3_ok nX3 hown hK hP hD hS 0 rfl rfl 0 (by decide) (hts _ (tbl_in (List.mem_of_getElem? (i := 49) (by decide +kernel)) rfl)) (fun _ h9 => h9) rfl hin rfl (yX3_ok 0 (by decide)) (by first | rfl | decide) rfl (Nat.le_of_ble_eq_true rfl) (show decode prog_5_method_1_code 9 = .ok (.putfield 9, 3) by decide +kernel) (fun H locs hP hD hS => ?_)
  have hP : va_P (dC, dI) clss [(h0, .inr (3, [.ref q1, .int 0, .null, .null, .null, .null, .int 0, .null, .null, .null, .int 0, .int 0])), (q1, .inl (tc 0, 64, .inl (fun _ => 0)))] H := hP
  have hD : va_D A [(h0, .inr (3, [.ref q1, .int 0, .null, .null, .null, .null, .int 0, .null, .null, .null, .int 0, .int 0])), (q1, .inl (tc 0, 64, .inl (fun _ => 0)))] := hD
  refine lv_aload_n hx hb (show decode prog_5_method_1_code 12 = .ok (.aload_n 0, 1) by decide +kernel) rfl (lv_at hl 0 rfl) ?_
  refine lv_iconst (v := 0) hx hb (show decode prog_5_method_1_code 13 = .ok (.iconst 0, 1) by decide +kernel) (by decide) ?_
  refine va_put (D := (dC, dI)) (ci := 3) (v := .int 0) (ty := yX3 1) (C := "BoatNames$Telling") (T := tX3) (N := 12) hx hb hts (cls_ok 3 _ rfl).1 yX3 yX3_ok nX3 hown hK hP hD hS 0 rfl rfl 1 (by decide) (hts _ (tbl_in (List.mem_of_getElem? (i := 52) (by decide +kernel)) rfl)) (fun _ h9 => h9) rfl (yX3_ok 1 (by decide)) (by first | rfl | decide) rfl (Nat.le_of_ble_eq_true rfl) (show decode prog_5_method_1_code 14 = .ok (.putfield 15, 3) by decide +kernel) (fun H locs hP hD hS => ?_)
  have hP : va_P (dC, dI) clss [(h0, .inr (3, [.ref q1, .int 0, .null, .null, .null, .null, .int 0, .null, .null, .null, .int 0, .int 0])), (q1, .inl (tc 0, 64, .inl (fun _ => 0)))] H := hP
  have hD : va_D A [(h0, .inr (3, [.ref q1, .int 0, .null, .null, .null, .null, .int 0, .null, .null, .null, .int 0, .int 0])), (q1, .inl (tc 0, 64, .inl (fun _ => 0)))] := hD
  refine lv_aload_n hx hb (show decode prog_5_method_1_code 17 = .ok (.aload_n 0, 1) by decide +kernel) rfl (lv_at hl 0 rfl) ?_
  refine lv_bipush (v := (nI 8)) hx hb (show decode prog_5_method_1_code 18 = .ok (.bipush 8, 2) by decide +kernel) (by decide) ?_
  refine k_newa (atype := .int) (ty := .int) (N := 8) (a0 := (8, .inl (fun _ => 0))) hx hb rfl 0 rfl (fun _ _ h => h) (hts _ (tbl_in (List.mem_of_getElem? (i := 42) (by decide +kernel)) rfl)) hK hP hD hS hA (fun _ => rfl) (by decide) (by decide) (Nat.le_of_ble_eq_true rfl) (Nat.le_of_ble_eq_true rfl) (show decode prog_5_method_1_code 20 = .ok (.newarray .int, 2) by decide +kernel) (fun q2 H hP hD hS => ?_)
  have hP : va_P (dC, dI) clss [(h0, .inr (3, [.ref q1, .int 0, .null, .null, .null, .null, .int 0, .null, .null, .null, .int 0, .int 0])), (q1, .inl (tc 0, 64, .inl (fun _ => 0))), (q2, .inl (tc 0, 8, .inl (fun _ => 0)))] H := hP
  have hD : va_D A [(h0, .inr (3, [.ref q1, .int 0, .null, .null, .null, .null, .int 0, .null, .null, .null, .int 0, .int 0])), (q1, .inl (tc 0, 64, .inl (fun _ => 0))), (q2, .inl (tc 0, 8, .inl (fun _ => 0)))] := hD
  refine va_putF (D := (dC, dI)) (ci := 3) (v := .ref q2) (ty := yX3 2) (C := "BoatNames$Telling") (T := tX3) (N := 12) hx hb hts (cls_ok 3 _ rfl).1 yX3 yX3_ok nX3 hown hK hP hD hS 0 rfl rfl 2 (by decide) (hts _ (tbl_in (List.mem_of_getElem? (i := 54) (by decide +kernel)) rfl)) (fun _ h9 => h9) rfl hin rfl (yX3_ok 2 (by decide)) (by first | rfl | decide) rfl (Nat.le_of_ble_eq_true rfl) (show decode prog_5_method_1_code 22 = .ok (.putfield 19, 3) by decide +kernel) (fun H locs hP hD hS => ?_)
  have hP : va_P (dC, dI) clss [(h0, .inr (3, [.ref q1, .int 0, .ref q2, .null, .null, .null, .int 0, .null, .null, .null, .int 0, .int 0])), (q1, .inl (tc 0, 64, .inl (fun _ => 0))), (q2, .inl (tc 0, 8, .inl (fun _ => 0)))] H := hP
  have hD : va_D A [(h0, .inr (3, [.ref q1, .int 0, .ref q2, .null, .null, .null, .int 0, .null, .null, .null, .int 0, .int 0])), (q1, .inl (tc 0, 64, .inl (fun _ => 0))), (q2, .inl (tc 0, 8, .inl (fun _ => 0)))] := hD
  refine lv_aload_n hx hb (show decode prog_5_method_1_code 25 = .ok (.aload_n 0, 1) by decide +kernel) rfl (lv_at hl 0 rfl) ?_
  refine lv_bipush (v := (nI 8)) hx hb (show decode prog_5_method_1_code 26 = .ok (.bipush 8, 2) by decide +kernel) (by decide) ?_
  refine k_newa (atype := .int) (ty := .int) (N := 8) (a0 := (8, .inl (fun _ => 0))) hx hb rfl 0 rfl (fun _ _ h => h) (hts _ (tbl_in (List.mem_of_getElem? (i := 42) (by decide +kernel)) rfl)) hK hP hD hS hA (fun _ => rfl) (by decide) (by decide) (Nat.le_of_ble_eq_true rfl) (Nat.le_of_ble_eq_true rfl) (show decode prog_5_method_1_code 28 = .ok (.newarray .int, 2) by decide +kernel) (fun q3 H hP hD hS => ?_)
  have hP : va_P (dC, dI) clss [(h0, .inr (3, [.ref q1, .int 0, .ref q2, .null, .null, .null, .int 0, .null, .null, .null, .int 0, .int 0])), (q1, .inl (tc 0, 64, .inl (fun _ => 0))), (q2, .inl (tc 0, 8, .inl (fun _ => 0))), (q3, .inl (tc 0, 8, .inl (fun _ => 0)))] H := hP
  have hD : va_D A [(h0, .inr (3, [.ref q1, .int 0, .ref q2, .null, .null, .null, .int 0, .null, .null, .null, .int 0, .int 0])), (q1, .inl (tc 0, 64, .inl (fun _ => 0))), (q2, .inl (tc 0, 8, .inl (fun _ => 0))), (q3, .inl (tc 0, 8, .inl (fun _ => 0)))] := hD
  refine va_putF (D := (dC, dI)) (ci := 3) (v := .ref q3) (ty := yX3 3) (C := "BoatNames$Telling") (T := tX3) (N := 12) hx hb hts (cls_ok 3 _ rfl).1 yX3 yX3_ok nX3 hown hK hP hD hS 0 rfl rfl 3 (by decide) (hts _ (tbl_in (List.mem_of_getElem? (i := 57) (by decide +kernel)) rfl)) (fun _ h9 => h9) rfl hin rfl (yX3_ok 3 (by decide)) (by first | rfl | decide) rfl (Nat.le_of_ble_eq_true rfl) (show decode prog_5_method_1_code 30 = .ok (.putfield 22, 3) by decide +kernel) (fun H locs hP hD hS => ?_)
  have hP : va_P (dC, dI) clss [(h0, .inr (3, [.ref q1, .int 0, .ref q2, .ref q3, .null, .null, .int 0, .null, .null, .null, .int 0, .int 0])), (q1, .inl (tc 0, 64, .inl (fun _ => 0))), (q2, .inl (tc 0, 8, .inl (fun _ => 0))), (q3, .inl (tc 0, 8, .inl (fun _ => 0)))] H := hP
  have hD : va_D A [(h0, .inr (3, [.ref q1, .int 0, .ref q2, .ref q3, .null, .null, .int 0, .null, .null, .null, .int 0, .int 0])), (q1, .inl (tc 0, 64, .inl (fun _ => 0))), (q2, .inl (tc 0, 8, .inl (fun _ => 0))), (q3, .inl (tc 0, 8, .inl (fun _ => 0)))] := hD
  refine lv_aload_n hx hb (show decode prog_5_method_1_code 33 = .ok (.aload_n 0, 1) by decide +kernel) rfl (lv_at hl 0 rfl) ?_
  refine lv_bipush (v := (nI 8)) hx hb (show decode prog_5_method_1_code 34 = .ok (.bipush 8, 2) by decide +kernel) (by decide) ?_
  refine k_newa (atype := .int) (ty := .int) (N := 8) (a0 := (8, .inl (fun _ => 0))) hx hb rfl 0 rfl (fun _ _ h => h) (hts _ (tbl_in (List.mem_of_getElem? (i := 42) (by decide +kernel)) rfl)) hK hP hD hS hA (fun _ => rfl) (by decide) (by decide) (Nat.le_of_ble_eq_true rfl) (Nat.le_of_ble_eq_true rfl) (show decode prog_5_method_1_code 36 = .ok (.newarray .int, 2) by decide +kernel) (fun q4 H hP hD hS => ?_)
  have hP : va_P (dC, dI) clss [(h0, .inr (3, [.ref q1, .int 0, .ref q2, .ref q3, .null, .null, .int 0, .null, .null, .null, .int 0, .int 0])), (q1, .inl (tc 0, 64, .inl (fun _ => 0))), (q2, .inl (tc 0, 8, .inl (fun _ => 0))), (q3, .inl (tc 0, 8, .inl (fun _ => 0))), (q4, .inl (tc 0, 8, .inl (fun _ => 0)))] H := hP
  have hD : va_D A [(h0, .inr (3, [.ref q1, .int 0, .ref q2, .ref q3, .null, .null, .int 0, .null, .null, .null, .int 0, .int 0])), (q1, .inl (tc 0, 64, .inl (fun _ => 0))), (q2, .inl (tc 0, 8, .inl (fun _ => 0))), (q3, .inl (tc 0, 8, .inl (fun _ => 0))), (q4, .inl (tc 0, 8, .inl (fun _ => 0)))] := hD
  refine va_putF (D := (dC, dI)) (ci := 3) (v := .ref q4) (ty := yX3 4) (C := "BoatNames$Telling") (T := tX3) (N := 12) hx hb hts (cls_ok 3 _ rfl).1 yX3 yX3_ok nX3 hown hK hP hD hS 0 rfl rfl 4 (by decide) (hts _ (tbl_in (List.mem_of_getElem? (i := 60) (by decide +kernel)) rfl)) (fun _ h9 => h9) rfl hin rfl (yX3_ok 4 (by decide)) (by first | rfl | decide) rfl (Nat.le_of_ble_eq_true rfl) (show decode prog_5_method_1_code 38 = .ok (.putfield 25, 3) by decide +kernel) (fun H locs hP hD hS => ?_)
  have hP : va_P (dC, dI) clss [(h0, .inr (3, [.ref q1, .int 0, .ref q2, .ref q3, .ref q4, .null, .int 0, .null, .null, .null, .int 0, .int 0])), (q1, .inl (tc 0, 64, .inl (fun _ => 0))), (q2, .inl (tc 0, 8, .inl (fun _ => 0))), (q3, .inl (tc 0, 8, .inl (fun _ => 0))), (q4, .inl (tc 0, 8, .inl (fun _ => 0)))] H := hP
  have hD : va_D A [(h0, .inr (3, [.ref q1, .int 0, .ref q2, .ref q3, .ref q4, .null, .int 0, .null, .null, .null, .int 0, .int 0])), (q1, .inl (tc 0, 64, .inl (fun _ => 0))), (q2, .inl (tc 0, 8, .inl (fun _ => 0))), (q3, .inl (tc 0, 8, .inl (fun _ => 0))), (q4, .inl (tc 0, 8, .inl (fun _ => 0)))] := hD
  refine lv_aload_n hx hb (show decode prog_5_method_1_code 41 = .ok (.aload_n 0, 1) by decide +kernel) rfl (lv_at hl 0 rfl) ?_
  refine lv_bipush (v := (nI 8)) hx hb (show decode prog_5_method_1_code 42 = .ok (.bipush 8, 2) by decide +kernel) (by decide) ?_
  refine k_newa (atype := .int) (ty := .int) (N := 8) (a0 := (8, .inl (fun _ => 0))) hx hb rfl 0 rfl (fun _ _ h => h) (hts _ (tbl_in (List.mem_of_getElem? (i := 42) (by decide +kernel)) rfl)) hK hP hD hS hA (fun _ => rfl) (by decide) (by decide) (Nat.le_of_ble_eq_true rfl) (Nat.le_of_ble_eq_true rfl) (show decode prog_5_method_1_code 44 = .ok (.newarray .int, 2) by decide +kernel) (fun q5 H hP hD hS => ?_)
  have hP : va_P (dC, dI) clss [(h0, .inr (3, [.ref q1, .int 0, .ref q2, .ref q3, .ref q4, .null, .int 0, .null, .null, .null, .int 0, .int 0])), (q1, .inl (tc 0, 64, .inl (fun _ => 0))), (q2, .inl (tc 0, 8, .inl (fun _ => 0))), (q3, .inl (tc 0, 8, .inl (fun _ => 0))), (q4, .inl (tc 0, 8, .inl (fun _ => 0))), (q5, .inl (tc 0, 8, .inl (fun _ => 0)))] H := hP
  have hD : va_D A [(h0, .inr (3, [.ref q1, .int 0, .ref q2, .ref q3, .ref q4, .null, .int 0, .null, .null, .null, .int 0, .int 0])), (q1, .inl (tc 0, 64, .inl (fun _ => 0))), (q2, .inl (tc 0, 8, .inl (fun _ => 0))), (q3, .inl (tc 0, 8, .inl (fun _ => 0))), (q4, .inl (tc 0, 8, .inl (fun _ => 0))), (q5, .inl (tc 0, 8, .inl (fun _ => 0)))] := hD
  refine va_putF (D := (dC, dI)) (ci := 3) (v := .ref q5) (ty := yX3 5) (C := "BoatNames$Telling") (T := tX3) (N := 12) hx hb hts (cls_ok 3 _ rfl).1 yX3 yX3_ok nX3 hown hK hP hD hS 0 rfl rfl 5 (by decide) (hts _ (tbl_in (List.mem_of_getElem? (i := 63) (by decide +kernel)) rfl)) (fun _ h9 => h9) rfl hin rfl (yX3_ok 5 (by decide)) (by first | rfl | decide) rfl (Nat.le_of_ble_eq_true rfl) (show decode prog_5_method_1_code 46 = .ok (.putfield 28, 3) by decide +kernel) (fun H locs hP hD hS => ?_)
  have hP : va_P (dC, dI) clss [(h0, .inr (3, [.ref q1, .int 0, .ref q2, .ref q3, .ref q4, .ref q5, .int 0, .null, .null, .null, .int 0, .int 0])), (q1, .inl (tc 0, 64, .inl (fun _ => 0))), (q2, .inl (tc 0, 8, .inl (fun _ => 0))), (q3, .inl (tc 0, 8, .inl (fun _ => 0))), (q4, .inl (tc 0, 8, .inl (fun _ => 0))), (q5, .inl (tc 0, 8, .inl (fun _ => 0)))] H := hP
  have hD : va_D A [(h0, .inr (3, [.ref q1, .int 0, .ref q2, .ref q3, .ref q4, .ref q5, .int 0, .null, .null, .null, .int 0, .int 0])), (q1, .inl (tc 0, 64, .inl (fun _ => 0))), (q2, .inl (tc 0, 8, .inl (fun _ => 0))), (q3, .inl (tc 0, 8, .inl (fun _ => 0))), (q4, .inl (tc 0, 8, .inl (fun _ => 0))), (q5, .inl (tc 0, 8, .inl (fun _ => 0)))] := hD
  refine lv_aload_n hx hb (show decode prog_5_method_1_code 49 = .ok (.aload_n 0, 1) by decide +kernel) rfl (lv_at hl 0 rfl) ?_
  refine lv_iconst (v := 0) hx hb (show decode prog_5_method_1_code 50 = .ok (.iconst 0, 1) by decide +kernel) (by decide) ?_
  refine va_put (D := (dC, dI)) (ci := 3) (v := .int 0) (ty := yX3 6) (C := "BoatNames$Telling") (T := tX3) (N := 12) hx hb hts (cls_ok 3 _ rfl).1 yX3 yX3_ok nX3 hown hK hP hD hS 0 rfl rfl 6 (by decide) (hts _ (tbl_in (List.mem_of_getElem? (i := 66) (by decide +kernel)) rfl)) (fun _ h9 => h9) rfl (yX3_ok 6 (by decide)) (by first | rfl | decide) rfl (Nat.le_of_ble_eq_true rfl) (show decode prog_5_method_1_code 51 = .ok (.putfield 31, 3) by decide +kernel) (fun H locs hP hD hS => ?_)
  have hP : va_P (dC, dI) clss [(h0, .inr (3, [.ref q1, .int 0, .ref q2, .ref q3, .ref q4, .ref q5, .int 0, .null, .null, .null, .int 0, .int 0])), (q1, .inl (tc 0, 64, .inl (fun _ => 0))), (q2, .inl (tc 0, 8, .inl (fun _ => 0))), (q3, .inl (tc 0, 8, .inl (fun _ => 0))), (q4, .inl (tc 0, 8, .inl (fun _ => 0))), (q5, .inl (tc 0, 8, .inl (fun _ => 0)))] H := hP
  have hD : va_D A [(h0, .inr (3, [.ref q1, .int 0, .ref q2, .ref q3, .ref q4, .ref q5, .int 0, .null, .null, .null, .int 0, .int 0])), (q1, .inl (tc 0, 64, .inl (fun _ => 0))), (q2, .inl (tc 0, 8, .inl (fun _ => 0))), (q3, .inl (tc 0, 8, .inl (fun _ => 0))), (q4, .inl (tc 0, 8, .inl (fun _ => 0))), (q5, .inl (tc 0, 8, .inl (fun _ => 0)))] := hD
  refine lv_aload_n hx hb (show decode prog_5_method_1_code 54 = .ok (.aload_n 0, 1) by decide +kernel) rfl (lv_at hl 0 rfl) ?_
  refine lv_bipush (v := (nI 9)) hx hb (show decode prog_5_method_1_code 55 = .ok (.bipush 9, 2) by decide +kernel) (by decide) ?_
  refine k_newa (atype := .int) (ty := .int) (N := 9) (a0 := (9, .inl (fun _ => 0))) hx hb rfl 0 rfl (fun _ _ h => h) (hts _ (tbl_in (List.mem_of_getElem? (i := 42) (by decide +kernel)) rfl)) hK hP hD hS hA (fun _ => rfl) (by decide) (by decide) (Nat.le_of_ble_eq_true rfl) (Nat.le_of_ble_eq_true rfl) (show decode prog_5_method_1_code 57 = .ok (.newarray .int, 2) by decide +kernel) (fun q6 H hP hD hS => ?_)
  have hP : va_P (dC, dI) clss [(h0, .inr (3, [.ref q1, .int 0, .ref q2, .ref q3, .ref q4, .ref q5, .int 0, .null, .null, .null, .int 0, .int 0])), (q1, .inl (tc 0, 64, .inl (fun _ => 0))), (q2, .inl (tc 0, 8, .inl (fun _ => 0))), (q3, .inl (tc 0, 8, .inl (fun _ => 0))), (q4, .inl (tc 0, 8, .inl (fun _ => 0))), (q5, .inl (tc 0, 8, .inl (fun _ => 0))), (q6, .inl (tc 0, 9, .inl (fun _ => 0)))] H := hP
  have hD : va_D A [(h0, .inr (3, [.ref q1, .int 0, .ref q2, .ref q3, .ref q4, .ref q5, .int 0, .null, .null, .null, .int 0, .int 0])), (q1, .inl (tc 0, 64, .inl (fun _ => 0))), (q2, .inl (tc 0, 8, .inl (fun _ => 0))), (q3, .inl (tc 0, 8, .inl (fun _ => 0))), (q4, .inl (tc 0, 8, .inl (fun _ => 0))), (q5, .inl (tc 0, 8, .inl (fun _ => 0))), (q6, .inl (tc 0, 9, .inl (fun _ => 0)))] := hD
  refine va_putF (D := (dC, dI)) (ci := 3) (v := .ref q6) (ty := yX3 7) (C := "BoatNames$Telling") (T := tX3) (N := 12) hx hb hts (cls_ok 3 _ rfl).1 yX3 yX3_ok nX3 hown hK hP hD hS 0 rfl rfl 7 (by decide) (hts _ (tbl_in (List.mem_of_getElem? (i := 70) (by decide +kernel)) rfl)) (fun _ h9 => h9) rfl hin rfl (yX3_ok 7 (by decide)) (by first | rfl | decide) rfl (Nat.le_of_ble_eq_true rfl) (show decode prog_5_method_1_code 59 = .ok (.putfield 34, 3) by decide +kernel) (fun H locs hP hD hS => ?_)
  have hP : va_P (dC, dI) clss [(h0, .inr (3, [.ref q1, .int 0, .ref q2, .ref q3, .ref q4, .ref q5, .int 0, .ref q6, .null, .null, .int 0, .int 0])), (q1, .inl (tc 0, 64, .inl (fun _ => 0))), (q2, .inl (tc 0, 8, .inl (fun _ => 0))), (q3, .inl (tc 0, 8, .inl (fun _ => 0))), (q4, .inl (tc 0, 8, .inl (fun _ => 0))), (q5, .inl (tc 0, 8, .inl (fun _ => 0))), (q6, .inl (tc 0, 9, .inl (fun _ => 0)))] H := hP
  have hD : va_D A [(h0, .inr (3, [.ref q1, .int 0, .ref q2, .ref q3, .ref q4, .ref q5, .int 0, .ref q6, .null, .null, .int 0, .int 0])), (q1, .inl (tc 0, 64, .inl (fun _ => 0))), (q2, .inl (tc 0, 8, .inl (fun _ => 0))), (q3, .inl (tc 0, 8, .inl (fun _ => 0))), (q4, .inl (tc 0, 8, .inl (fun _ => 0))), (q5, .inl (tc 0, 8, .inl (fun _ => 0))), (q6, .inl (tc 0, 9, .inl (fun _ => 0)))] := hD
  refine lv_aload_n hx hb (show decode prog_5_method_1_code 62 = .ok (.aload_n 0, 1) by decide +kernel) rfl (lv_at hl 0 rfl) ?_
  refine lv_bipush (v := (nI 9)) hx hb (show decode prog_5_method_1_code 63 = .ok (.bipush 9, 2) by decide +kernel) (by decide) ?_
  refine k_newa (atype := .int) (ty := .int) (N := 9) (a0 := (9, .inl (fun _ => 0))) hx hb rfl 0 rfl (fun _ _ h => h) (hts _ (tbl_in (List.mem_of_getElem? (i := 42) (by decide +kernel)) rfl)) hK hP hD hS hA (fun _ => rfl) (by decide) (by decide) (Nat.le_of_ble_eq_true rfl) (Nat.le_of_ble_eq_true rfl) (show decode prog_5_method_1_code 65 = .ok (.newarray .int, 2) by decide +kernel) (fun q7 H hP hD hS => ?_)
  have hP : va_P (dC, dI) clss [(h0, .inr (3, [.ref q1, .int 0, .ref q2, .ref q3, .ref q4, .ref q5, .int 0, .ref q6, .null, .null, .int 0, .int 0])), (q1, .inl (tc 0, 64, .inl (fun _ => 0))), (q2, .inl (tc 0, 8, .inl (fun _ => 0))), (q3, .inl (tc 0, 8, .inl (fun _ => 0))), (q4, .inl (tc 0, 8, .inl (fun _ => 0))), (q5, .inl (tc 0, 8, .inl (fun _ => 0))), (q6, .inl (tc 0, 9, .inl (fun _ => 0))), (q7, .inl (tc 0, 9, .inl (fun _ => 0)))] H := hP
  have hD : va_D A [(h0, .inr (3, [.ref q1, .int 0, .ref q2, .ref q3, .ref q4, .ref q5, .int 0, .ref q6, .null, .null, .int 0, .int 0])), (q1, .inl (tc 0, 64, .inl (fun _ => 0))), (q2, .inl (tc 0, 8, .inl (fun _ => 0))), (q3, .inl (tc 0, 8, .inl (fun _ => 0))), (q4, .inl (tc 0, 8, .inl (fun _ => 0))), (q5, .inl (tc 0, 8, .inl (fun _ => 0))), (q6, .inl (tc 0, 9, .inl (fun _ => 0))), (q7, .inl (tc 0, 9, .inl (fun _ => 0)))] := hD
  refine va_putF (D := (dC, dI)) (ci := 3) (v := .ref q7) (ty := yX3 8) (C := "BoatNames$Telling") (T := tX3) (N := 12) hx hb hts (cls_ok 3 _ rfl).1 yX3 yX3_ok nX3 hown hK hP hD hS 0 rfl rfl 8 (by decide) (hts _ (tbl_in (List.mem_of_getElem? (i := 72) (by decide +kernel)) rfl)) (fun _ h9 => h9) rfl hin rfl (yX3_ok 8 (by decide)) (by first | rfl | decide) rfl (Nat.le_of_ble_eq_true rfl) (show decode prog_5_method_1_code 67 = .ok (.putfield 37, 3) by decide +kernel) (fun H locs hP hD hS => ?_)
  have hP : va_P (dC, dI) clss [(h0, .inr (3, [.ref q1, .int 0, .ref q2, .ref q3, .ref q4, .ref q5, .int 0, .ref q6, .ref q7, .null, .int 0, .int 0])), (q1, .inl (tc 0, 64, .inl (fun _ => 0))), (q2, .inl (tc 0, 8, .inl (fun _ => 0))), (q3, .inl (tc 0, 8, .inl (fun _ => 0))), (q4, .inl (tc 0, 8, .inl (fun _ => 0))), (q5, .inl (tc 0, 8, .inl (fun _ => 0))), (q6, .inl (tc 0, 9, .inl (fun _ => 0))), (q7, .inl (tc 0, 9, .inl (fun _ => 0)))] H := hP
  have hD : va_D A [(h0, .inr (3, [.ref q1, .int 0, .ref q2, .ref q3, .ref q4, .ref q5, .int 0, .ref q6, .ref q7, .null, .int 0, .int 0])), (q1, .inl (tc 0, 64, .inl (fun _ => 0))), (q2, .inl (tc 0, 8, .inl (fun _ => 0))), (q3, .inl (tc 0, 8, .inl (fun _ => 0))), (q4, .inl (tc 0, 8, .inl (fun _ => 0))), (q5, .inl (tc 0, 8, .inl (fun _ => 0))), (q6, .inl (tc 0, 9, .inl (fun _ => 0))), (q7, .inl (tc 0, 9, .inl (fun _ => 0)))] := hD
  refine lv_aload_n hx hb (show decode prog_5_method_1_code 70 = .ok (.aload_n 0, 1) by decide +kernel) rfl (lv_at hl 0 rfl) ?_
  refine lv_bipush (v := (nI 9)) hx hb (show decode prog_5_method_1_code 71 = .ok (.bipush 9, 2) by decide +kernel) (by decide) ?_
  refine k_newa (atype := .int) (ty := .int) (N := 9) (a0 := (9, .inl (fun _ => 0))) hx hb rfl 0 rfl (fun _ _ h => h) (hts _ (tbl_in (List.mem_of_getElem? (i := 42) (by decide +kernel)) rfl)) hK hP hD hS hA (fun _ => rfl) (by decide) (by decide) (Nat.le_of_ble_eq_true rfl) (Nat.le_of_ble_eq_true rfl) (show decode prog_5_method_1_code 73 = .ok (.newarray .int, 2) by decide +kernel) (fun q8 H hP hD hS => ?_)
  have hP : va_P (dC, dI) clss [(h0, .inr (3, [.ref q1, .int 0, .ref q2, .ref q3, .ref q4, .ref q5, .int 0, .ref q6, .ref q7, .null, .int 0, .int 0])), (q1, .inl (tc 0, 64, .inl (fun _ => 0))), (q2, .inl (tc 0, 8, .inl (fun _ => 0))), (q3, .inl (tc 0, 8, .inl (fun _ => 0))), (q4, .inl (tc 0, 8, .inl (fun _ => 0))), (q5, .inl (tc 0, 8, .inl (fun _ => 0))), (q6, .inl (tc 0, 9, .inl (fun _ => 0))), (q7, .inl (tc 0, 9, .inl (fun _ => 0))), (q8, .inl (tc 0, 9, .inl (fun _ => 0)))] H := hP
  have hD : va_D A [(h0, .inr (3, [.ref q1, .int 0, .ref q2, .ref q3, .ref q4, .ref q5, .int 0, .ref q6, .ref q7, .null, .int 0, .int 0])), (q1, .inl (tc 0, 64, .inl (fun _ => 0))), (q2, .inl (tc 0, 8, .inl (fun _ => 0))), (q3, .inl (tc 0, 8, .inl (fun _ => 0))), (q4, .inl (tc 0, 8, .inl (fun _ => 0))), (q5, .inl (tc 0, 8, .inl (fun _ => 0))), (q6, .inl (tc 0, 9, .inl (fun _ => 0))), (q7, .inl (tc 0, 9, .inl (fun _ => 0))), (q8, .inl (tc 0, 9, .inl (fun _ => 0)))] := hD
  refine va_putF (D := (dC, dI)) (ci := 3) (v := .ref q8) (ty := yX3 9) (C := "BoatNames$Telling") (T := tX3) (N := 12) hx hb hts (cls_ok 3 _ rfl).1 yX3 yX3_ok nX3 hown hK hP hD hS 0 rfl rfl 9 (by decide) (hts _ (tbl_in (List.mem_of_getElem? (i := 73) (by decide +kernel)) rfl)) (fun _ h9 => h9) rfl hin rfl (yX3_ok 9 (by decide)) (by first | rfl | decide) rfl (Nat.le_of_ble_eq_true rfl) (show decode prog_5_method_1_code 75 = .ok (.putfield 40, 3) by decide +kernel) (fun H locs hP hD hS => ?_)
  have hP : va_P (dC, dI) clss [(h0, .inr (3, [.ref q1, .int 0, .ref q2, .ref q3, .ref q4, .ref q5, .int 0, .ref q6, .ref q7, .ref q8, .int 0, .int 0])), (q1, .inl (tc 0, 64, .inl (fun _ => 0))), (q2, .inl (tc 0, 8, .inl (fun _ => 0))), (q3, .inl (tc 0, 8, .inl (fun _ => 0))), (q4, .inl (tc 0, 8, .inl (fun _ => 0))), (q5, .inl (tc 0, 8, .inl (fun _ => 0))), (q6, .inl (tc 0, 9, .inl (fun _ => 0))), (q7, .inl (tc 0, 9, .inl (fun _ => 0))), (q8, .inl (tc 0, 9, .inl (fun _ => 0)))] H := hP
  have hD : va_D A [(h0, .inr (3, [.ref q1, .int 0, .ref q2, .ref q3, .ref q4, .ref q5, .int 0, .ref q6, .ref q7, .ref q8, .int 0, .int 0])), (q1, .inl (tc 0, 64, .inl (fun _ => 0))), (q2, .inl (tc 0, 8, .inl (fun _ => 0))), (q3, .inl (tc 0, 8, .inl (fun _ => 0))), (q4, .inl (tc 0, 8, .inl (fun _ => 0))), (q5, .inl (tc 0, 8, .inl (fun _ => 0))), (q6, .inl (tc 0, 9, .inl (fun _ => 0))), (q7, .inl (tc 0, 9, .inl (fun _ => 0))), (q8, .inl (tc 0, 9, .inl (fun _ => 0)))] := hD
  refine lv_aload_n hx hb (show decode prog_5_method_1_code 78 = .ok (.aload_n 0, 1) by decide +kernel) rfl (lv_at hl 0 rfl) ?_
  refine lv_iconst (v := 0) hx hb (show decode prog_5_method_1_code 79 = .ok (.iconst 0, 1) by decide +kernel) (by decide) ?_
  refine va_put (D := (dC, dI)) (ci := 3) (v := .int 0) (ty := yX3 10) (C := "BoatNames$Telling") (T := tX3) (N := 12) hx hb hts (cls_ok 3 _ rfl).1 yX3 yX3_ok nX3 hown hK hP hD hS 0 rfl rfl 10 (by decide) (hts _ (tbl_in (List.mem_of_getElem? (i := 75) (by decide +kernel)) rfl)) (fun _ h9 => h9) rfl (yX3_ok 10 (by decide)) (by first | rfl | decide) rfl (Nat.le_of_ble_eq_true rfl) (show decode prog_5_method_1_code 80 = .ok (.putfield 43, 3) by decide +kernel) (fun H locs hP hD hS => ?_)
  have hP : va_P (dC, dI) clss [(h0, .inr (3, [.ref q1, .int 0, .ref q2, .ref q3, .ref q4, .ref q5, .int 0, .ref q6, .ref q7, .ref q8, .int 0, .int 0])), (q1, .inl (tc 0, 64, .inl (fun _ => 0))), (q2, .inl (tc 0, 8, .inl (fun _ => 0))), (q3, .inl (tc 0, 8, .inl (fun _ => 0))), (q4, .inl (tc 0, 8, .inl (fun _ => 0))), (q5, .inl (tc 0, 8, .inl (fun _ => 0))), (q6, .inl (tc 0, 9, .inl (fun _ => 0))), (q7, .inl (tc 0, 9, .inl (fun _ => 0))), (q8, .inl (tc 0, 9, .inl (fun _ => 0)))] H := hP
  have hD : va_D A [(h0, .inr (3, [.ref q1, .int 0, .ref q2, .ref q3, .ref q4, .ref q5, .int 0, .ref q6, .ref q7, .ref q8, .int 0, .int 0])), (q1, .inl (tc 0, 64, .inl (fun _ => 0))), (q2, .inl (tc 0, 8, .inl (fun _ => 0))), (q3, .inl (tc 0, 8, .inl (fun _ => 0))), (q4, .inl (tc 0, 8, .inl (fun _ => 0))), (q5, .inl (tc 0, 8, .inl (fun _ => 0))), (q6, .inl (tc 0, 9, .inl (fun _ => 0))), (q7, .inl (tc 0, 9, .inl (fun _ => 0))), (q8, .inl (tc 0, 9, .inl (fun _ => 0)))] := hD
  refine lv_aload_n hx hb (show decode prog_5_method_1_code 83 = .ok (.aload_n 0, 1) by decide +kernel) rfl (lv_at hl 0 rfl) ?_
  refine lv_iconst (v := 0) hx hb (show decode prog_5_method_1_code 84 = .ok (.iconst 0, 1) by decide +kernel) (by decide) ?_
  refine va_put (D := (dC, dI)) (ci := 3) (v := .int 0) (ty := yX3 11) (C := "BoatNames$Telling") (T := tX3) (N := 12) hx hb hts (cls_ok 3 _ rfl).1 yX3 yX3_ok nX3 hown hK hP hD hS 0 rfl rfl 11 (by decide) (hts _ (tbl_in (List.mem_of_getElem? (i := 78) (by decide +kernel)) rfl)) (fun _ h9 => h9) rfl (yX3_ok 11 (by decide)) (by first | rfl | decide) rfl (Nat.le_of_ble_eq_true rfl) (show decode prog_5_method_1_code 85 = .ok (.putfield 46, 3) by decide +kernel) (fun H locs hP hD hS => ?_)
  have hP : va_P (dC, dI) clss [(h0, .inr (3, [.ref q1, .int 0, .ref q2, .ref q3, .ref q4, .ref q5, .int 0, .ref q6, .ref q7, .ref q8, .int 0, .int 0])), (q1, .inl (tc 0, 64, .inl (fun _ => 0))), (q2, .inl (tc 0, 8, .inl (fun _ => 0))), (q3, .inl (tc 0, 8, .inl (fun _ => 0))), (q4, .inl (tc 0, 8, .inl (fun _ => 0))), (q5, .inl (tc 0, 8, .inl (fun _ => 0))), (q6, .inl (tc 0, 9, .inl (fun _ => 0))), (q7, .inl (tc 0, 9, .inl (fun _ => 0))), (q8, .inl (tc 0, 9, .inl (fun _ => 0)))] H := hP
  have hD : va_D A [(h0, .inr (3, [.ref q1, .int 0, .ref q2, .ref q3, .ref q4, .ref q5, .int 0, .ref q6, .ref q7, .ref q8, .int 0, .int 0])), (q1, .inl (tc 0, 64, .inl (fun _ => 0))), (q2, .inl (tc 0, 8, .inl (fun _ => 0))), (q3, .inl (tc 0, 8, .inl (fun _ => 0))), (q4, .inl (tc 0, 8, .inl (fun _ => 0))), (q5, .inl (tc 0, 8, .inl (fun _ => 0))), (q6, .inl (tc 0, 9, .inl (fun _ => 0))), (q7, .inl (tc 0, 9, .inl (fun _ => 0))), (q8, .inl (tc 0, 9, .inl (fun _ => 0)))] := hD
  exact W.vret hx hb hr (fun t ht hW => ⟨⟨(), rfl, trivial, _, ⟨q1, q2, q3, q4, q5, q6, q7, q8, rfl⟩, by rw [ht]; exact hP, va_K.moved hW.alike hK, hD⟩, hS.F ht⟩) hS.2.2 (show decode prog_5_method_1_code 88 = .ok (.return_, 1) by decide +kernel)
set_option maxHeartbeats 4000000 in
set_option maxRecDepth 100000 in
theorem i_X47 (dC : Nat → ClassId) (dI : Nat → Nat → Nat) (tc : Nat → ClassId) (h0 : Nat) (l : Launch) (sz : Nat) : Met l y_X w_X ({ frames := 1, cells := 1, slots := 47, locals := 40 } : Room) (PK dC dI tc sz [.ref h0, .int (nI 47)] [(h0, .inr (4, [.null, .int 0, .int 0]))]) (QK dC dI tc (va_A [(h0, .inr (4, [.null, .int 0, .int 0]))] sz) (fun w => ∃ q1 : Nat, w = [(h0, .inr (4, [.ref q1, .int 0, .int (-1)])), (q1, .inl (tc 0, 47, .inl (fun _ => 0)))])) 1 47 (va_A [(h0, .inr (4, [.null, .int 0, .int 0]))] sz) := by
  refine Met.ofW (cc := prog_6_method_1_code) (maxL := 2) (ret := none) (by decide) rfl ?_
  intro p e s m args below meth c s₁ B hml hv
  obtain ⟨rfl, hsz, hP, hK, hD0, hAO⟩ := hv
  have hx := B.exec
  have hb := B.bytes
  have hr := B.returns
  have hts0 := atoms_spec (ws := w_X) B.pre
  have hts : ∀ w ∈ tbl, w.before _ s = true := fun w hw => hts0 w (List.mem_cons_of_mem _ hw)
  have hown : s.vm.findClass "BoatNames$Text" = some m.cls := findClass_of_methodNamed B.named
  have hin : meth.name = "<init>" := (name_of_methodNamed B.named B.method).1
  subst hsz
  have hD := hD0.self (sz := s.heap.size)
  generalize hAe : va_A [(h0, .inr (4, [.null, .int 0, .int 0]))] s.heap.size = A at hD ⊢
  have hA : ∀ q : Nat, s.heap.size ≤ q → A q := fun q h => by rw [← hAe]; exact Or.inr h
  have hS : va_S A s.heap s.heap [] := va_S.rf
  have hl := lv_entry ([.ref h0, .int (nI 47)]) (n := 2) (Nat.le_of_ble_eq_true rfl)
  rw [lg_entry_eq]
  generalize (lg_sl ([.ref h0, .int (nI 47)]) ++ List.replicate (2 - (lg_sl ([.ref h0, .int (nI 47)])).length) Slot.unset).toArray = ls at hl ⊢
  have hl : lv_has ls 2 [(0, .ref h0), (1, .int (nI 47))] := hl
  have hP : va_P (dC, dI) clss [(h0, .inr (4, [.null, .int 0, .int 0]))] s.heap := hP
  refine lv_aload_n hx hb (show decode prog_6_method_1_code 0 = .ok (.aload_n 0, 1) by decide +kernel) rfl (lv_at hl 0 rfl) ?_
  refine W.objInit hx hb hown (hts _ (tbl_in (List.mem_of_getElem? (i := 26) (by decide +kernel)) rfl)) (hts _ (tbl_in (List.mem_of_getElem? (i := 19) (by decide +kernel)) rfl)) (hts _ (tbl_in (List.mem_of_getElem? (i := 20) (by decide +kernel)) rfl)) rfl (by rw [hml]; exact hl.1) rfl (show decode prog_6_method_1_code 1 = .ok (.invokespecial 3, 3) by decide +kernel) (Nat.le_of_ble_eq_true rfl) (Nat.le_of_ble_eq_true rfl) ?_
  refine W.eq (g2 := F0 m 4 ls []) rfl ?_
  refine lv_aload_n hx hb (show decode prog_6_method_1_code 4 = .ok (.aload_n 0, 1) by decide +kernel) rfl (lv_at hl 0 rfl) ?_
  refine lv_iload_n hx hb (show decode prog_6_method_1_code 5 = .ok (.iload_n 1, 1) by decide +kernel) rfl (lv_at hl 1 rfl) ?_
  refine k_newa (atype := .int) (ty := .int) (N := 47) (a0 := (47, .inl (fun _ => 0))) hx hb rfl 0 rfl (fun _ _ h => h) (hts _ (tbl_in (List.mem_of_getElem? (i := 42) (by decide +kernel)) rfl)) hK hP hD hS hA (fun _ => rfl) (by decide) (by decide) (Nat.le_of_ble_eq_true rfl) (Nat.le_of_ble_eq_true rfl) (show decode prog_6_method_1_code 6 = .ok (.newarray .int, 2) by decide +kernel) (fun q1 H hP hD hS => ?_)
  have hP : va_P (dC, dI) clss [(h0, .inr (4, [.null, .int 0, .int 0])), (q1, .inl (tc 0, 47, .inl (fun _ => 0)))] H := hP
  have hD : va_D A [(h0, .inr (4, [.null, .int 0, .int 0])), (q1, .inl (tc 0, 47, .inl (fun _ => 0)))] := hD
  refine va_putF (D := (dC, dI)) (ci := 4) (v := .ref q1) (ty := yX4 0) (C := "BoatNames$Text") (T := tX4) (N := 3) hx hb hts (cls_ok 4 _ rfl).1 yX4 yX4_ok nX4 hown hK hP hD hS 0 rfl rfl 0 (by decide) (hts _ (tbl_in (List.mem_of_getElem? (i := 27) (by decide +kernel)) rfl)) (fun _ h9 => h9) rfl hin rfl (yX4_ok 0 (by decide)) (by first | rfl | decide) rfl (Nat.le_of_ble_eq_true rfl) (show decode prog_6_method_1_code 8 = .ok (.putfield 9, 3) by decide +kernel) (fun H locs hP hD hS => ?_)
  have hP : va_P (dC, dI) clss [(h0, .inr (4, [.ref q1, .int 0, .int 0])), (q1, .inl (tc 0, 47, .inl (fun _ => 0)))] H := hP
  have hD : va_D A [(h0, .inr (4, [.ref q1, .int 0, .int 0])), (q1, .inl (tc 0, 47, .inl (fun _ => 0)))] := hD
  refine lv_aload_n hx hb (show decode prog_6_method_1_code 11 = .ok (.aload_n 0, 1) by decide +kernel) rfl (lv_at hl 0 rfl) ?_
  refine lv_iconst (v := 0) hx hb (show decode prog_6_method_1_code 12 = .ok (.iconst 0, 1) by decide +kernel) (by decide) ?_
  refine va_put (D := (dC, dI)) (ci := 4) (v := .int 0) (ty := yX4 1) (C := "BoatNames$Text") (T := tX4) (N := 3) hx hb hts (cls_ok 4 _ rfl).1 yX4 yX4_ok nX4 hown hK hP hD hS 0 rfl rfl 1 (by decide) (hts _ (tbl_in (List.mem_of_getElem? (i := 29) (by decide +kernel)) rfl)) (fun _ h9 => h9) rfl (yX4_ok 1 (by decide)) (by first | rfl | decide) rfl (Nat.le_of_ble_eq_true rfl) (show decode prog_6_method_1_code 13 = .ok (.putfield 15, 3) by decide +kernel) (fun H locs hP hD hS => ?_)
  have hP : va_P (dC, dI) clss [(h0, .inr (4, [.ref q1, .int 0, .int 0])), (q1, .inl (tc 0, 47, .inl (fun _ => 0)))] H := hP
  have hD : va_D A [(h0, .inr (4, [.ref q1, .int 0, .int 0])), (q1, .inl (tc 0, 47, .inl (fun _ => 0)))] := hD
  refine lv_aload_n hx hb (show decode prog_6_method_1_code 16 = .ok (.aload_n 0, 1) by decide +kernel) rfl (lv_at hl 0 rfl) ?_
  refine lv_iconst (v := (-1)) hx hb (show decode prog_6_method_1_code 17 = .ok (.iconst (-1), 1) by decide +kernel) (by decide) ?_
  refine va_put (D := (dC, dI)) (ci := 4) (v := .int (-1)) (ty := yX4 2) (C := "BoatNames$Text") (T := tX4) (N := 3) hx hb hts (cls_ok 4 _ rfl).1 yX4 yX4_ok nX4 hown hK hP hD hS 0 rfl rfl 2 (by decide) (hts _ (tbl_in (List.mem_of_getElem? (i := 32) (by decide +kernel)) rfl)) (fun _ h9 => h9) rfl (yX4_ok 2 (by decide)) (by first | rfl | decide) rfl (Nat.le_of_ble_eq_true rfl) (show decode prog_6_method_1_code 18 = .ok (.putfield 19, 3) by decide +kernel) (fun H locs hP hD hS => ?_)
  have hP : va_P (dC, dI) clss [(h0, .inr (4, [.ref q1, .int 0, .int (-1)])), (q1, .inl (tc 0, 47, .inl (fun _ => 0)))] H := hP
  have hD : va_D A [(h0, .inr (4, [.ref q1, .int 0, .int (-1)])), (q1, .inl (tc 0, 47, .inl (fun _ => 0)))] := hD
  exact W.vret hx hb hr (fun t ht hW => ⟨⟨(), rfl, trivial, _, ⟨q1, rfl⟩, by rw [ht]; exact hP, va_K.moved hW.alike hK, hD⟩, hS.F ht⟩) hS.2.2 (show decode prog_6_method_1_code 21 = .ok (.return_, 1) by decide +kernel)
set_option maxHeartbeats 4000000 in
set_option maxRecDepth 100000 in
theorem i_X39 (dC : Nat → ClassId) (dI : Nat → Nat → Nat) (tc : Nat → ClassId) (h0 : Nat) (l : Launch) (sz : Nat) : Met l y_X w_X ({ frames := 1, cells := 1, slots := 39, locals := 40 } : Room) (PK dC dI tc sz [.ref h0, .int (nI 39)] [(h0, .inr (4, [.null, .int 0, .int 0]))]) (QK dC dI tc (va_A [(h0, .inr (4, [.null, .int 0, .int 0]))] sz) (fun w => ∃ q1 : Nat, w = [(h0, .inr (4, [.ref q1, .int 0, .int (-1)])), (q1, .inl (tc 0, 39, .inl (fun _ => 0)))])) 1 39 (va_A [(h0, .inr (4, [.null, .int 0, .int 0]))] sz) := by
  refine Met.ofW (cc := prog_6_method_1_code) (maxL := 2) (ret := none) (by decide) rfl ?_
  intro p e s m args below meth c s₁ B hml hv
  obtain ⟨rfl, hsz, hP, hK, hD0, hAO⟩ := hv
  have hx := B.exec
  have hb := B.bytes
  have hr := B.returns
  have hts0 := atoms_spec (ws := w_X) B.pre
  have hts : ∀ w ∈ tbl, w.before _ s = true := fun w hw => hts0 w (List.mem_cons_of_mem _ hw)
  have hown : s.vm.findClass "BoatNames$Text" = some m.cls := findClass_of_methodNamed B.named
  have hin : meth.name = "<init>" := (name_of_methodNamed B.named B.method).1
  subst hsz
  have hD := hD0.self (sz := s.heap.size)
  generalize hAe : va_A [(h0, .inr (4, [.null, .int 0, .int 0]))] s.heap.size = A at hD ⊢
  have hA : ∀ q : Nat, s.heap.size ≤ q → A q := fun q h => by rw [← hAe]; exact Or.inr h
  have hS : va_S A s.heap s.heap [] := va_S.rf
  have hl := lv_entry ([.ref h0, .int (nI 39)]) (n := 2) (Nat.le_of_ble_eq_true rfl)
  rw [lg_entry_eq]
  generalize (lg_sl ([.ref h0, .int (nI 39)]) ++ List.replicate (2 - (lg_sl ([.ref h0, .int (nI 39)])).length) Slot.unset).toArray = ls at hl ⊢
  have hl : lv_has ls 2 [(0, .ref h0), (1, .int (nI 39))] := hl
  have hP : va_P (dC, dI) clss [(h0, .inr (4, [.null, .int 0, .int 0]))] s.heap := hP
  refine lv_aload_n hx hb (show decode prog_6_method_1_code 0 = .ok (.aload_n 0, 1) by decide +kernel) rfl (lv_at hl 0 rfl) ?_
  refine W.objInit hx hb hown (hts _ (tbl_in (List.mem_of_getElem? (i := 26) (by decide +kernel)) rfl)) (hts _ (tbl_in (List.mem_of_getElem? (i := 19) (by decide +kernel)) rfl)) (hts _ (tbl_in (List.mem_of_getElem? (i := 20) (by decide +kernel)) rfl)) rfl (by rw [hml]; exact hl.1) rfl (show decode prog_6_method_1_code 1 = .ok (.invokespecial 3, 3) by decide +kernel) (Nat.le_of_ble_eq_true rfl) (Nat.le_of_ble_eq_true rfl) ?_
  refine W.eq (g2 := F0 m 4 ls []) rfl ?_
  refine lv_aload_n hx hb (show decode prog_6_method_1_code 4 = .ok (.aload_n 0, 1) by decide +kernel) rfl (lv_at hl 0 rfl) ?_
  refine lv_iload_n hx hb (show decode prog_6_method_1_code 5 = .ok (.iload_n 1, 1) by decide +kernel) rfl (lv_at hl 1 rfl) ?_
  refine k_newa (atype := .int) (ty := .int) (N := 39) (a0 := (39, .inl (fun _ => 0))) hx hb rfl 0 rfl (fun _ _ h => h) (hts _ (tbl_in (List.mem_of_getElem? (i := 42) (by decide +kernel)) rfl)) hK hP hD hS hA (fun _ => rfl) (by decide) (by decide) (Nat.le_of_ble_eq_true rfl) (Nat.le_of_ble_eq_true rfl) (show decode prog_6_method_1_code 6 = .ok (.newarray .int, 2) by decide +kernel) (fun q1 H hP hD hS => ?_)
  have hP : va_P (dC, dI) clss [(h0, .inr (4, [.null, .int 0, .int 0])), (q1, .inl (tc 0, 39, .inl (fun _ => 0)))] H := hP
  have hD : va_D A [(h0, .inr (4, [.null, .int 0, .int 0])), (q1, .inl (tc 0, 39, .inl (fun _ => 0)))] := hD
  refine va_putF (D := (dC, dI)) (ci := 4) (v := .ref q1) (ty := yX4 0) (C := "BoatNames$Text") (T := tX4) (N := 3) hx hb hts (cls_ok 4 _ rfl).1 yX4 yX4_ok nX4 hown hK hP hD hS 0 rfl rfl 0 (by decide) (hts _ (tbl_in (List.mem_of_getElem? (i := 27) (by decide +kernel)) rfl)) (fun _ h9 => h9) rfl hin rfl (yX4_ok 0 (by decide)) (by first | rfl | decide) rfl (Nat.le_of_ble_eq_true rfl) (show decode prog_6_method_1_code 8 = .ok (.putfield 9, 3) by decide +kernel) (fun H locs hP hD hS => ?_)
  have hP : va_P (dC, dI) clss [(h0, .inr (4, [.ref q1, .int 0, .int 0])), (q1, .inl (tc 0, 39, .inl (fun _ => 0)))] H := hP
  have hD : va_D A [(h0, .inr (4, [.ref q1, .int 0, .int 0])), (q1, .inl (tc 0, 39, .inl (fun _ => 0)))] := hD
  refine lv_aload_n hx hb (show decode prog_6_method_1_code 11 = .ok (.aload_n 0, 1) by decide +kernel) rfl (lv_at hl 0 rfl) ?_
  refine lv_iconst (v := 0) hx hb (show decode prog_6_method_1_code 12 = .ok (.iconst 0, 1) by decide +kernel) (by decide) ?_
  refine va_put (D := (dC, dI)) (ci := 4) (v := .int 0) (ty := yX4 1) (C := "BoatNames$Text") (T := tX4) (N := 3) hx hb hts (cls_ok 4 _ rfl).1 yX4 yX4_ok nX4 hown hK hP hD hS 0 rfl rfl 1 (by decide) (hts _ (tbl_in (List.mem_of_getElem? (i := 29) (by decide +kernel)) rfl)) (fun _ h9 => h9) rfl (yX4_ok 1 (by decide)) (by first | rfl | decide) rfl (Nat.le_of_ble_eq_true rfl) (show decode prog_6_method_1_code 13 = .ok (.putfield 15, 3) by decide +kernel) (fun H locs hP hD hS => ?_)
  have hP : va_P (dC, dI) clss [(h0, .inr (4, [.ref q1, .int 0, .int 0])), (q1, .inl (tc 0, 39, .inl (fun _ => 0)))] H := hP
  have hD : va_D A [(h0, .inr (4, [.ref q1, .int 0, .int 0])), (q1, .inl (tc 0, 39, .inl (fun _ => 0)))] := hD
  refine lv_aload_n hx hb (show decode prog_6_method_1_code 16 = .ok (.aload_n 0, 1) by decide +kernel) rfl (lv_at hl 0 rfl) ?_
  refine lv_iconst (v := (-1)) hx hb (show decode prog_6_method_1_code 17 = .ok (.iconst (-1), 1) by decide +kernel) (by decide) ?_
  refine va_put (D := (dC, dI)) (ci := 4) (v := .int (-1)) (ty := yX4 2) (C := "BoatNames$Text") (T := tX4) (N := 3) hx hb hts (cls_ok 4 _ rfl).1 yX4 yX4_ok nX4 hown hK hP hD hS 0 rfl rfl 2 (by decide) (hts _ (tbl_in (List.mem_of_getElem? (i := 32) (by decide +kernel)) rfl)) (fun _ h9 => h9) rfl (yX4_ok 2 (by decide)) (by first | rfl | decide) rfl (Nat.le_of_ble_eq_true rfl) (show decode prog_6_method_1_code 18 = .ok (.putfield 19, 3) by decide +kernel) (fun H locs hP hD hS => ?_)
  have hP : va_P (dC, dI) clss [(h0, .inr (4, [.ref q1, .int 0, .int (-1)])), (q1, .inl (tc 0, 39, .inl (fun _ => 0)))] H := hP
  have hD : va_D A [(h0, .inr (4, [.ref q1, .int 0, .int (-1)])), (q1, .inl (tc 0, 39, .inl (fun _ => 0)))] := hD
  exact W.vret hx hb hr (fun t ht hW => ⟨⟨(), rfl, trivial, _, ⟨q1, rfl⟩, by rw [ht]; exact hP, va_K.moved hW.alike hK, hD⟩, hS.F ht⟩) hS.2.2 (show decode prog_6_method_1_code 21 = .ok (.return_, 1) by decide +kernel)
set_option maxHeartbeats 4000000 in
set_option maxRecDepth 100000 in
theorem i_V (dC : Nat → ClassId) (dI : Nat → Nat → Nat) (tc : Nat → ClassId) (h0 : Nat) (t0 : Nat) (l : Launch) (sz : Nat) : Met l y_V w_V ({ frames := 1, cells := 8, slots := 120, locals := 40 } : Room) (PK dC dI tc sz [.ref h0, .ref t0] [(h0, .inr (5, [.null, .null, .null, .null, .null, .null, .null, .null, .null, .int 0, .int 0, .int 0]))]) (QK dC dI tc (va_A [(h0, .inr (5, [.null, .null, .null, .null, .null, .null, .null, .null, .null, .int 0, .int 0, .int 0]))] sz) (fun w => ∃ q1 q2 q3 q4 q5 q6 q7 q8 : Nat, w = [(h0, .inr (5, [.ref t0, .ref q1, .ref q2, .ref q3, .ref q4, .ref q5, .ref q6, .ref q7, .ref q8, .int 0, .int (-1), .int (-1)])), (q1, .inl (tc 0, 64, .inl (fun _ => 0))), (q2, .inl (tc 0, 8, .inl (fun _ => 0))), (q3, .inl (tc 0, 8, .inl (fun _ => 0))), (q4, .inl (tc 0, 8, .inl (fun _ => 0))), (q5, .inl (tc 0, 8, .inl (fun _ => 0))), (q6, .inl (tc 0, 8, .inl (fun _ => 0))), (q7, .inl (tc 0, 8, .inl (fun _ => 0))), (q8, .inl (tc 0, 8, .inl (fun _ => 0)))])) 8 120 (va_A [(h0, .inr (5, [.null, .null, .null, .null, .null, .null, .null, .null, .null, .int 0, .int 0, .int 0]))] sz) := by
  refine Met.ofW (cc := prog_7_method_1_code) (maxL := 2) (ret := none) (by decide) rfl ?_
  intro p e s m args below meth c s₁ B hml hv
  obtain ⟨rfl, hsz, hP, hK, hD0, hAO⟩ := hv
  have hx := B.exec
  have hb := B.bytes
  have hr := B.returns
  have hts0 := atoms_spec (ws := w_V) B.pre
  have hts : ∀ w ∈ tbl, w.before _ s = true := fun w hw => hts0 w (List.mem_cons_of_mem _ hw)
  have hown : s.vm.findClass "BoatNames$Voyage" = some m.cls := findClass_of_methodNamed B.named
  have hin : meth.name = "<init>" := (name_of_methodNamed B.named B.method).1
  subst hsz
  have hD := hD0.self (sz := s.heap.size)
  generalize hAe : va_A [(h0, .inr (5, [.null, .null, .null, .null, .null, .null, .null, .null, .null, .int 0, .int 0, .int 0]))] s.heap.size = A at hD ⊢
  have hA : ∀ q : Nat, s.heap.size ≤ q → A q := fun q h => by rw [← hAe]; exact Or.inr h
  have hS : va_S A s.heap s.heap [] := va_S.rf
  have hl := lv_entry ([.ref h0, .ref t0]) (n := 2) (Nat.le_of_ble_eq_true rfl)
  rw [lg_entry_eq]
  generalize (lg_sl ([.ref h0, .ref t0]) ++ List.replicate (2 - (lg_sl ([.ref h0, .ref t0])).length) Slot.unset).toArray = ls at hl ⊢
  have hl : lv_has ls 2 [(0, .ref h0), (1, .ref t0)] := hl
  have hP : va_P (dC, dI) clss [(h0, .inr (5, [.null, .null, .null, .null, .null, .null, .null, .null, .null, .int 0, .int 0, .int 0]))] s.heap := hP
  refine lv_aload_n hx hb (show decode prog_7_method_1_code 0 = .ok (.aload_n 0, 1) by decide +kernel) rfl (lv_at hl 0 rfl) ?_
  refine W.objInit hx hb hown (hts _ (tbl_in (List.mem_of_getElem? (i := 110) (by decide +kernel)) rfl)) (hts _ (tbl_in (List.mem_of_getElem? (i := 19) (by decide +kernel)) rfl)) (hts _ (tbl_in (List.mem_of_getElem? (i := 20) (by decide +kernel)) rfl)) rfl (by rw [hml]; exact hl.1) rfl (show decode prog_7_method_1_code 1 = .ok (.invokespecial 3, 3) by decide +kernel) (Nat.le_of_ble_eq_true rfl) (Nat.le_of_ble_eq_true rfl) ?_
  refine W.eq (g2 := F0 m 4 ls []) rfl ?_
  refine lv_aload_n hx hb (show decode prog_7_method_1_code 4 = .ok (.aload_n 0, 1) by decide +kernel) rfl (lv_at hl 0 rfl) ?_
  refine lv_aload_n hx hb (show decode prog_7_method_1_code 5 = .ok (.aload_n 1, 1) by decide +kernel) rfl (lv_at hl 1 rfl) ?_
  refine va_put (D := (dC, dI)) (ci := 5) (v := .ref t0) (ty := yX5 0) (C := "BoatNames$Voyage") (T := tX5) (N := 12) hx hb hts (cls_ok 5 _ rfl).1 yX5 yX5_ok nX5 hown hK hP hD hS 0 rfl rfl 0 (by decide) (hts _ (tbl_in (List.mem_of_getElem? (i := 111) (by decide +kernel)) rfl)) (fun _ h9 => h9) rfl (yX5_ok 0 (by decide)) (by first | rfl | decide) rfl (Nat.le_of_ble_eq_true rfl) (show decode prog_7_method_1_code 6 = .ok (.putfield 9, 3) by decide +kernel) (fun H locs hP hD hS => ?_)
  have hP : va_P (dC, dI) clss [(h0, .inr (5, [.ref t0, .null, .null, .null, .null, .null, .null, .null, .null, .int 0, .int 0, .int 0]))] H := hP
  have hD : va_D A [(h0, .inr (5, [.ref t0, .null, .null, .null, .null, .null, .null, .null, .null, .int 0, .int 0, .int 0]))] := hD
  refine lv_aload_n hx hb (show decode prog_7_method_1_code 9 = .ok (.aload_n 0, 1) by decide +kernel) rfl (lv_at hl 0 rfl) ?_
  refine lv_bipush (v := (nI 64)) hx hb (show decode prog_7_method_1_code 10 = .ok (.bipush 64, 2) by decide +kernel) (by decide) ?_
  refine k_newa (atype := .int) (ty := .int) (N := 64) (a0 := (64, .inl (fun _ => 0))) hx hb rfl 0 rfl (fun _ _ h => h) (hts _ (tbl_in (List.mem_of_getElem? (i := 42) (by decide +kernel)) rfl)) hK hP hD hS hA (fun _ => rfl) (by decide) (by decide) (Nat.le_of_ble_eq_true rfl) (Nat.le_of_ble_eq_true rfl) (show decode prog_7_method_1_code 12 = .ok (.newarray .int, 2) by decide +kernel) (fun q1 H hP hD hS => ?_)
  have hP : va_P (dC, dI) clss [(h0, .inr (5, [.ref t0, .null, .null, .null, .null, .null, .null, .null, .null, .int 0, .int 0, .int 0])), (q1, .inl (tc 0, 64, .inl (fun _ => 0)))] H := hP
  have hD : va_D A [(h0, .inr (5, [.ref t0, .null, .null, .null, .null, .null, .null, .null, .null, .int 0, .int 0, .int 0])), (q1, .inl (tc 0, 64, .inl (fun _ => 0)))] := hD
  refine va_putF (D := (dC, dI)) (ci := 5) (v := .ref q1) (ty := yX5 1) (C := "BoatNames$Voyage") (T := tX5) (N := 12) hx hb hts (cls_ok 5 _ rfl).1 yX5 yX5_ok nX5 hown hK hP hD hS 0 rfl rfl 1 (by decide) (hts _ (tbl_in (List.mem_of_getElem? (i := 113) (by decide +kernel)) rfl)) (fun _ h9 => h9) rfl hin rfl (yX5_ok 1 (by decide)) (by first | rfl | decide) rfl (Nat.le_of_ble_eq_true rfl) (show decode prog_7_method_1_code 14 = .ok (.putfield 15, 3) by decide +kernel) (fun H locs hP hD hS => ?_)
  have hP : va_P (dC, dI) clss [(h0, .inr (5, [.ref t0, .ref q1, .null, .null, .null, .null, .null, .null, .null, .int 0, .int 0, .int 0])), (q1, .inl (tc 0, 64, .inl (fun _ => 0)))] H := hP
  have hD : va_D A [(h0, .inr (5, [.ref t0, .ref q1, .null, .null, .null, .null, .null, .null, .null, .int 0, .int 0, .int 0])), (q1, .inl (tc 0, 64, .inl (fun _ => 0)))] := hD
  refine lv_aload_n hx hb (show decode prog_7_method_1_code 17 = .ok (.aload_n 0, 1) by decide +kernel) rfl (lv_at hl 0 rfl) ?_
  refine lv_bipush (v := (nI 8)) hx hb (show decode prog_7_method_1_code 18 = .ok (.bipush 8, 2) by decide +kernel) (by decide) ?_
  refine k_newa (atype := .int) (ty := .int) (N := 8) (a0 := (8, .inl (fun _ => 0))) hx hb rfl 0 rfl (fun _ _ h => h) (hts _ (tbl_in (List.mem_of_getElem? (i := 42) (by decide +kernel)) rfl)) hK hP hD hS hA (fun _ => rfl) (by decide) (by decide) (Nat.le_of_ble_eq_true rfl) (Nat.le_of_ble_eq_true rfl) (show decode prog_7_method_1_code 20 = .ok (.newarray .int, 2) by decide +kernel) (fun q2 H hP hD hS => ?_)
  have hP : va_P (dC, dI) clss [(h0, .inr (5, [.ref t0, .ref q1, .null, .null, .null, .null, .null, .null, .null, .int 0, .int 0, .int 0])), (q1, .inl (tc 0, 64, .inl (fun _ => 0))), (q2, .inl (tc 0, 8, .inl (fun _ => 0)))] H := hP
  have hD : va_D A [(h0, .inr (5, [.ref t0, .ref q1, .null, .null, .null, .null, .null, .null, .null, .int 0, .int 0, .int 0])), (q1, .inl (tc 0, 64, .inl (fun _ => 0))), (q2, .inl (tc 0, 8, .inl (fun _ => 0)))] := hD
  refine va_putF (D := (dC, dI)) (ci := 5) (v := .ref q2) (ty := yX5 2) (C := "BoatNames$Voyage") (T := tX5) (N := 12) hx hb hts (cls_ok 5 _ rfl).1 yX5 yX5_ok nX5 hown hK hP hD hS 0 rfl rfl 2 (by decide) (hts _ (tbl_in (List.mem_of_getElem? (i := 115) (by decide +kernel)) rfl)) (fun _ h9 => h9) rfl hin rfl (yX5_ok 2 (by decide)) (by first | rfl | decide) rfl (Nat.le_of_ble_eq_true rfl) (show decode prog_7_method_1_code 22 = .ok (.putfield 19, 3) by decide +kernel) (fun H locs hP hD hS => ?_)
  have hP : va_P (dC, dI) clss [(h0, .inr (5, [.ref t0, .ref q1, .ref q2, .null, .null, .null, .null, .null, .null, .int 0, .int 0, .int 0])), (q1, .inl (tc 0, 64, .inl (fun _ => 0))), (q2, .inl (tc 0, 8, .inl (fun _ => 0)))] H := hP
  have hD : va_D A [(h0, .inr (5, [.ref t0, .ref q1, .ref q2, .null, .null, .null, .null, .null, .null, .int 0, .int 0, .int 0])), (q1, .inl (tc 0, 64, .inl (fun _ => 0))), (q2, .inl (tc 0, 8, .inl (fun _ => 0)))] := hD
  refine lv_aload_n hx hb (show decode prog_7_method_1_code 25 = .ok (.aload_n 0, 1) by decide +kernel) rfl (lv_at hl 0 rfl) ?_
  refine lv_bipush (v := (nI 8)) hx hb (show decode prog_7_method_1_code 26 = .ok (.bipush 8, 2) by decide +kernel) (by decide) ?_
  refine k_newa (atype := .int) (ty := .int) (N := 8) (a0 := (8, .inl (fun _ => 0))) hx hb rfl 0 rfl (fun _ _ h => h) (hts _ (tbl_in (List.mem_of_getElem? (i := 42) (by decide +kernel)) rfl)) hK hP hD hS hA (fun _ => rfl) (by decide) (by decide) (Nat.le_of_ble_eq_true rfl) (Nat.le_of_ble_eq_true rfl) (show decode prog_7_method_1_code 28 = .ok (.newarray .int, 2) by decide +kernel) (fun q3 H hP hD hS => ?_)
  have hP : va_P (dC, dI) clss [(h0, .inr (5, [.ref t0, .ref q1, .ref q2, .null, .null, .null, .null, .null, .null, .int 0, .int 0, .int 0])), (q1, .inl (tc 0, 64, .inl (fun _ => 0))), (q2, .inl (tc 0, 8, .inl (fun _ => 0))), (q3, .inl (tc 0, 8, .inl (fun _ => 0)))] H := hP
  have hD : va_D A [(h0, .inr (5, [.ref t0, .ref q1, .ref q2, .null, .null, .null, .null, .null, .null, .int 0, .int 0, .int 0])), (q1, .inl (tc 0, 64, .inl (fun _ => 0))), (q2, .inl (tc 0, 8, .inl (fun _ => 0))), (q3, .inl (tc 0, 8, .inl (fun _ => 0)))] := hD
  refine va_putF (D := (dC, dI)) (ci := 5) (v := .ref q3) (ty := yX5 3) (C := "BoatNames$Voyage") (T := tX5) (N := 12) hx hb hts (cls_ok 5 _ rfl).1 yX5 yX5_ok nX5 hown hK hP hD hS 0 rfl rfl 3 (by decide) (hts _ (tbl_in (List.mem_of_getElem? (i := 117) (by decide +kernel)) rfl)) (fun _ h9 => h9) rfl hin rfl (yX5_ok 3 (by decide)) (by first | rfl | decide) rfl (Nat.le_of_ble_eq_true rfl) (show decode prog_7_method_1_code 30 = .ok (.putfield 22, 3) by decide +kernel) (fun H locs hP hD hS => ?_)
  have hP : va_P (dC, dI) clss [(h0, .inr (5, [.ref t0, .ref q1, .ref q2, .ref q3, .null, .null, .null, .null, .null, .int 0, .int 0, .int 0])), (q1, .inl (tc 0, 64, .inl (fun _ => 0))), (q2, .inl (tc 0, 8, .inl (fun _ => 0))), (q3, .inl (tc 0, 8, .inl (fun _ => 0)))] H := hP
  have hD : va_D A [(h0, .inr (5, [.ref t0, .ref q1, .ref q2, .ref q3, .null, .null, .null, .null, .null, .int 0, .int 0, .int 0])), (q1, .inl (tc 0, 64, .inl (fun _ => 0))), (q2, .inl (tc 0, 8, .inl (fun _ => 0))), (q3, .inl (tc 0, 8, .inl (fun _ => 0)))] := hD
  refine lv_aload_n hx hb (show decode prog_7_method_1_code 33 = .ok (.aload_n 0, 1) by decide +kernel) rfl (lv_at hl 0 rfl) ?_
  refine lv_bipush (v := (nI 8)) hx hb (show decode prog_7_method_1_code 34 = .ok (.bipush 8, 2) by decide +kernel) (by decide) ?_
  refine k_newa (atype := .int) (ty := .int) (N := 8) (a0 := (8, .inl (fun _ => 0))) hx hb rfl 0 rfl (fun _ _ h => h) (hts _ (tbl_in (List.mem_of_getElem? (i := 42) (by decide +kernel)) rfl)) hK hP hD hS hA (fun _ => rfl) (by decide) (by decide) (Nat.le_of_ble_eq_true rfl) (Nat.le_of_ble_eq_true rfl) (show decode prog_7_method_1_code 36 = .ok (.newarray .int, 2) by decide +kernel) (fun q4 H hP hD hS => ?_)
  have hP : va_P (dC, dI) clss [(h0, .inr (5, [.ref t0, .ref q1, .ref q2, .ref q3, .null, .null, .null, .null, .null, .int 0, .int 0, .int 0])), (q1, .inl (tc 0, 64, .inl (fun _ => 0))), (q2, .inl (tc 0, 8, .inl (fun _ => 0))), (q3, .inl (tc 0, 8, .inl (fun _ => 0))), (q4, .inl (tc 0, 8, .inl (fun _ => 0)))] H := hP
  have hD : va_D A [(h0, .inr (5, [.ref t0, .ref q1, .ref q2, .ref q3, .null, .null, .null, .null, .null, .int 0, .int 0, .int 0])), (q1, .inl (tc 0, 64, .inl (fun _ => 0))), (q2, .inl (tc 0, 8, .inl (fun _ => 0))), (q3, .inl (tc 0, 8, .inl (fun _ => 0))), (q4, .inl (tc 0, 8, .inl (fun _ => 0)))] := hD
  refine va_putF (D := (dC, dI)) (ci := 5) (v := .ref q4) (ty := yX5 4) (C := "BoatNames$Voyage") (T := tX5) (N := 12) hx hb hts (cls_ok 5 _ rfl).1 yX5 yX5_ok nX5 hown hK hP hD hS 0 rfl rfl 4 (by decide) (hts _ (tbl_in (List.mem_of_getElem? (i := 119) (by decide +kernel)) rfl)) (fun _ h9 => h9) rfl hin rfl (yX5_ok 4 (by decide)) (by first | rfl | decide) rfl (Nat.le_of_ble_eq_true rfl) (show decode prog_7_method_1_code 38 = .ok (.putfield 25, 3) by decide +kernel) (fun H locs hP hD hS => ?_)
  have hP : va_P (dC, dI) clss [(h0, .inr (5, [.ref t0, .ref q1, .ref q2, .ref q3, .ref q4, .null, .null, .null, .null, .int 0, .int 0, .int 0])), (q1, .inl (tc 0, 64, .inl (fun _ => 0))), (q2, .inl (tc 0, 8, .inl (fun _ => 0))), (q3, .inl (tc 0, 8, .inl (fun _ => 0))), (q4, .inl (tc 0, 8, .inl (fun _ => 0)))] H := hP
  have hD : va_D A [(h0, .inr (5, [.ref t0, .ref q1, .ref q2, .ref q3, .ref q4, .null, .null, .null, .null, .int 0, .int 0, .int 0])), (q1, .inl (tc 0, 64, .inl (fun _ => 0))), (q2, .inl (tc 0, 8, .inl (fun _ => 0))), (q3, .inl (tc 0, 8, .inl (fun _ => 0))), (q4, .inl (tc 0, 8, .inl (fun _ => 0)))] := hD
  refine lv_aload_n hx hb (show decode prog_7_method_1_code 41 = .ok (.aload_n 0, 1) by decide +kernel) rfl (lv_at hl 0 rfl) ?_
  refine lv_bipush (v := (nI 8)) hx hb (show decode prog_7_method_1_code 42 = .ok (.bipush 8, 2) by decide +kernel) (by decide) ?_
  refine k_newa (atype := .int) (ty := .int) (N := 8) (a0 := (8, .inl (fun _ => 0))) hx hb rfl 0 rfl (fun _ _ h => h) (hts _ (tbl_in (List.mem_of_getElem? (i := 42) (by decide +kernel)) rfl)) hK hP hD hS hA (fun _ => rfl) (by decide) (by decide) (Nat.le_of_ble_eq_true rfl) (Nat.le_of_ble_eq_true rfl) (show decode prog_7_method_1_code 44 = .ok (.newarray .int, 2) by decide +kernel) (fun q5 H hP hD hS => ?_)
  have hP : va_P (dC, dI) clss [(h0, .inr (5, [.ref t0, .ref q1, .ref q2, .ref q3, .ref q4, .null, .null, .null, .null, .int 0, .int 0, .int 0])), (q1, .inl (tc 0, 64, .inl (fun _ => 0))), (q2, .inl (tc 0, 8, .inl (fun _ => 0))), (q3, .inl (tc 0, 8, .inl (fun _ => 0))), (q4, .inl (tc 0, 8, .inl (fun _ => 0))), (q5, .inl (tc 0, 8, .inl (fun _ => 0)))] H := hP
  have hD : va_D A [(h0, .inr (5, [.ref t0, .ref q1, .ref q2, .ref q3, .ref q4, .null, .null, .null, .null, .int 0, .int 0, .int 0])), (q1, .inl (tc 0, 64, .inl (fun _ => 0))), (q2, .inl (tc 0, 8, .inl (fun _ => 0))), (q3, .inl (tc 0, 8, .inl (fun _ => 0))), (q4, .inl (tc 0, 8, .inl (fun _ => 0))), (q5, .inl (tc 0, 8, .inl (fun _ => 0)))] := hD
  refine va_putF (D := (dC, dI)) (ci := 5) (v := .ref q5) (ty := yX5 5) (C := "BoatNames$Voyage") (T := tX5) (N := 12) hx hb hts (cls_ok 5 _ rfl).1 yX5 yX5_ok nX5 hown hK hP hD hS 0 rfl rfl 5 (by decide) (hts _ (tbl_in (List.mem_of_getElem? (i := 121) (by decide +kernel)) rfl)) (fun _ h9 => h9) rfl hin rfl (yX5_ok 5 (by decide)) (by first | rfl | decide) rfl (Nat.le_of_ble_eq_true rfl) (show decode prog_7_method_1_code 46 = .ok (.putfield 28, 3) by decide +kernel) (fun H locs hP hD hS => ?_)
  have hP : va_P (dC, dI) clss [(h0, .inr (5, [.ref t0, .ref q1, .ref q2, .ref q3, .ref q4, .ref q5, .null, .null, .null, .int 0, .int 0, .int 0])), (q1, .inl (tc 0, 64, .inl (fun _ => 0))), (q2, .inl (tc 0, 8, .inl (fun _ => 0))), (q3, .inl (tc 0, 8, .inl (fun _ => 0))), (q4, .inl (tc 0, 8, .inl (fun _ => 0))), (q5, .inl (tc 0, 8, .inl (fun _ => 0)))] H := hP
  have hD : va_D A [(h0, .inr (5, [.ref t0, .ref q1, .ref q2, .ref q3, .ref q4, .ref q5, .null, .null, .null, .int 0, .int 0, .int 0])), (q1, .inl (tc 0, 64, .inl (fun _ => 0))), (q2, .inl (tc 0, 8, .inl (fun _ => 0))), (q3, .inl (tc 0, 8, .inl (fun _ => 0))), (q4, .inl (tc 0, 8, .inl (fun _ => 0))), (q5, .inl (tc 0, 8, .inl (fun _ => 0)))] := hD
  refine lv_aload_n hx hb (show decode prog_7_method_1_code 49 = .ok (.aload_n 0, 1) by decide +kernel) rfl (lv_at hl 0 rfl) ?_
  refine lv_bipush (v := (nI 8)) hx hb (show decode prog_7_method_1_code 50 = .ok (.bipush 8, 2) by decide +kernel) (by decide) ?_
  refine k_newa (atype := .int) (ty := .int) (N := 8) (a0 := (8, .inl (fun _ => 0))) hx hb rfl 0 rfl (fun _ _ h => h) (hts _ (tbl_in (List.mem_of_getElem? (i := 42) (by decide +kernel)) rfl)) hK hP hD hS hA (fun _ => rfl) (by decide) (by decide) (Nat.le_of_ble_eq_true rfl) (Nat.le_of_ble_eq_true rfl) (show decode prog_7_method_1_code 52 = .ok (.newarray .int, 2) by decide +kernel) (fun q6 H hP hD hS => ?_)
  have hP : va_P (dC, dI) clss [(h0, .inr (5, [.ref t0, .ref q1, .ref q2, .ref q3, .ref q4, .ref q5, .null, .null, .null, .int 0, .int 0, .int 0])), (q1, .inl (tc 0, 64, .inl (fun _ => 0))), (q2, .inl (tc 0, 8, .inl (fun _ => 0))), (q3, .inl (tc 0, 8, .inl (fun _ => 0))), (q4, .inl (tc 0, 8, .inl (fun _ => 0))), (q5, .inl (tc 0, 8, .inl (fun _ => 0))), (q6, .inl (tc 0, 8, .inl (fun _ => 0)))] H := hP
  have hD : va_D A [(h0, .inr (5, [.ref t0, .ref q1, .ref q2, .ref q3, .ref q4, .ref q5, .null, .null, .null, .int 0, .int 0, .int 0])), (q1, .inl (tc 0, 64, .inl (fun _ => 0))), (q2, .inl (tc 0, 8, .inl (fun _ => 0))), (q3, .inl (tc 0, 8, .inl (fun _ => 0))), (q4, .inl (tc 0, 8, .inl (fun _ => 0))), (q5, .inl (tc 0, 8, .inl (fun _ => 0))), (q6, .inl (tc 0, 8, .inl (fun _ => 0)))] := hD
  refine va_putF (D := (dC, dI)) (ci := 5) (v := .ref q6) (ty := yX5 6) (C := "BoatNames$Voyage") (T := tX5) (N := 12) hx hb hts (cls_ok 5 _ rfl).1 yX5 yX5_ok nX5 hown hK hP hD hS 0 rfl rfl 6 (by decide) (hts _ (tbl_in (List.mem_of_getElem? (i := 123) (by decide +kernel)) rfl)) (fun _ h9 => h9) rfl hin rfl (yX5_ok 6 (by decide)) (by first | rfl | decide) rfl (Nat.le_of_ble_eq_true rfl) (show decode prog_7_method_1_code 54 = .ok (.putfield 31, 3) by decide +kernel) (fun H locs hP hD hS => ?_)
  have hP : va_P (dC, dI) clss [(h0, .inr (5, [.ref t0, .ref q1, .ref q2, .ref q3, .ref q4, .ref q5, .ref q6, .null, .null, .int 0, .int 0, .int 0])), (q1, .inl (tc 0, 64, .inl (fun _ => 0))), (q2, .inl (tc 0, 8, .inl (fun _ => 0))), (q3, .inl (tc 0, 8, .inl (fun _ => 0))), (q4, .inl (tc 0, 8, .inl (fun _ => 0))), (q5, .inl (tc 0, 8, .inl (fun _ => 0))), (q6, .inl (tc 0, 8, .inl (fun _ => 0)))] H := hP
  have hD : va_D A [(h0, .inr (5, [.ref t0, .ref q1, .ref q2, .ref q3, .ref q4, .ref q5, .ref q6, .null, .null, .int 0, .int 0, .int 0])), (q1, .inl (tc 0, 64, .inl (fun _ => 0))), (q2, .inl (tc 0, 8, .inl (fun _ => 0))), (q3, .inl (tc 0, 8, .inl (fun _ => 0))), (q4, .inl (tc 0, 8, .inl (fun _ => 0))), (q5, .inl (tc 0, 8, .inl (fun _ => 0))), (q6, .inl (tc 0, 8, .inl (fun _ => 0)))] := hD
  refine lv_aload_n hx hb (show decode prog_7_method_1_code 57 = .ok (.aload_n 0, 1) by decide +kernel) rfl (lv_at hl 0 rfl) ?_
  refine lv_bipush (v := (nI 8)) hx hb (show decode prog_7_method_1_code 58 = .ok (.bipush 8, 2) by decide +kernel) (by decide) ?_
  refine k_newa (atype := .int) (ty := .int) (N := 8) (a0 := (8, .inl (fun _ => 0))) hx hb rfl 0 rfl (fun _ _ h => h) (hts _ (tbl_in (List.mem_of_getElem? (i := 42) (by decide +kernel)) rfl)) hK hP hD hS hA (fun _ => rfl) (by decide) (by decide) (Nat.le_of_ble_eq_true rfl) (Nat.le_of_ble_eq_true rfl) (show decode prog_7_method_1_code 60 = .ok (.newarray .int, 2) by decide +kernel) (fun q7 H hP hD hS => ?_)
  have hP : va_P (dC, dI) clss [(h0, .inr (5, [.ref t0, .ref q1, .ref q2, .ref q3, .ref q4, .ref q5, .ref q6, .null, .null, .int 0, .int 0, .int 0])), (q1, .inl (tc 0, 64, .inl (fun _ => 0))), (q2, .inl (tc 0, 8, .inl (fun _ => 0))), (q3, .inl (tc 0, 8, .inl (fun _ => 0))), (q4, .inl (tc 0, 8, .inl (fun _ => 0))), (q5, .inl (tc 0, 8, .inl (fun _ => 0))), (q6, .inl (tc 0, 8, .inl (fun _ => 0))), (q7, .inl (tc 0, 8, .inl (fun _ => 0)))] H := hP
  have hD : va_D A [(h0, .inr (5, [.ref t0, .ref q1, .ref q2, .ref q3, .ref q4, .ref q5, .ref q6, .null, .null, .int 0, .int 0, .int 0])), (q1, .inl (tc 0, 64, .inl (fun _ => 0))), (q2, .inl (tc 0, 8, .inl (fun _ => 0))), (q3, .inl (tc 0, 8, .inl (fun _ => 0))), (q4, .inl (tc 0, 8, .inl (fun _ => 0))), (q5, .inl (tc 0, 8, .inl (fun _ => 0))), (q6, .inl (tc 0, 8, .inl (fun _ => 0))), (q7, .inl (tc 0, 8, .inl (fun _ => 0)))] := hD
  refine va_putF (D := (dC, dI)) (ci := 5) (v := .ref q7) (ty := yX5 7) (C := "BoatNames$Voyage") (T := tX5) (N := 12) hx hb hts (cls_ok 5 _ rfl).1 yX5 yX5_ok nX5 hown hK hP hD hS 0 rfl rfl 7 (by decide) (hts _ (tbl_in (List.mem_of_getElem? (i := 125) (by decide +kernel)) rfl)) (fun _ h9 => h9) rfl hin rfl (yX5_ok 7 (by decide)) (by first | rfl | decide) rfl (Nat.le_of_ble_eq_true rfl) (show decode prog_7_method_1_code 62 = .ok (.putfield 34, 3) by decide +kernel) (fun H locs hP hD hS => ?_)
  have hP : va_P (dC, dI) clss [(h0, .inr (5, [.ref t0, .ref q1, .ref q2, .ref q3, .ref q4, .ref q5, .ref q6, .ref q7, .null, .int 0, .int 0, .int 0])), (q1, .inl (tc 0, 64, .inl (fun _ => 0))), (q2, .inl (tc 0, 8, .inl (fun _ => 0))), (q3, .inl (tc 0, 8, .inl (fun _ => 0))), (q4, .inl (tc 0, 8, .inl (fun _ => 0))), (q5, .inl (tc 0, 8, .inl (fun _ => 0))), (q6, .inl (tc 0, 8, .inl (fun _ => 0))), (q7, .inl (tc 0, 8, .inl (fun _ => 0)))] H := hP
  have hD : va_D A [(h0, .inr (5, [.ref t0, .ref q1, .ref q2, .ref q3, .ref q4, .ref q5, .ref q6, .ref q7, .null, .int 0, .int 0, .int 0])), (q1, .inl (tc 0, 64, .inl (fun _ => 0))), (q2, .inl (tc 0, 8, .inl (fun _ => 0))), (q3, .inl (tc 0, 8, .inl (fun _ => 0))), (q4, .inl (tc 0, 8, .inl (fun _ => 0))), (q5, .inl (tc 0, 8, .inl (fun _ => 0))), (q6, .inl (tc 0, 8, .inl (fun _ => 0))), (q7, .inl (tc 0, 8, .inl (fun _ => 0)))] := hD
  refine lv_aload_n hx hb (show decode prog_7_method_1_code 65 = .ok (.aload_n 0, 1) by decide +kernel) rfl (lv_at hl 0 rfl) ?_
  refine lv_bipush (v := (nI 8)) hx hb (show decode prog_7_method_1_code 66 = .ok (.bipush 8, 2) by decide +kernel) (by decide) ?_
  refine k_newa (atype := .int) (ty := .int) (N := 8) (a0 := (8, .inl (fun _ => 0))) hx hb rfl 0 rfl (fun _ _ h => h) (hts _ (tbl_in (List.mem_of_getElem? (i := 42) (by decide +kernel)) rfl)) hK hP hD hS hA (fun _ => rfl) (by decide) (by decide) (Nat.le_of_ble_eq_true rfl) (Nat.le_of_ble_eq_true rfl) (show decode prog_7_method_1_code 68 = .ok (.newarray .int, 2) by decide +kernel) (fun q8 H hP hD hS => ?_)
  have hP : va_P (dC, dI) clss [(h0, .inr (5, [.ref t0, .ref q1, .ref q2, .ref q3, .ref q4, .ref q5, .ref q6, .ref q7, .null, .int 0, .int 0, .int 0])), (q1, .inl (tc 0, 64, .inl (fun _ => 0))), (q2, .inl (tc 0, 8, .inl (fun _ => 0))), (q3, .inl (tc 0, 8, .inl (fun _ => 0))), (q4, .inl (tc 0, 8, .inl (fun _ => 0))), (q5, .inl (tc 0, 8, .inl (fun _ => 0))), (q6, .inl (tc 0, 8, .inl (fun _ => 0))), (q7, .inl (tc 0, 8, .inl (fun _ => 0))), (q8, .inl (tc 0, 8, .inl (fun _ => 0)))] H := hP
  have hD : va_D A [(h0, .inr (5, [.ref t0, .ref q1, .ref q2, .ref q3, .ref q4, .ref q5, .ref q6, .ref q7, .null, .int 0, .int 0, .int 0])), (q1, .inl (tc 0, 64, .inl (fun _ => 0))), (q2, .inl (tc 0, 8, .inl (fun _ => 0))), (q3, .inl (tc 0, 8, .inl (fun _ => 0))), (q4, .inl (tc 0, 8, .inl (fun _ => 0))), (q5, .inl (tc 0, 8, .inl (fun _ => 0))), (q6, .inl (tc 0, 8, .inl (fun _ => 0))), (q7, .inl (tc 0, 8, .inl (fun _ => 0))), (q8, .inl (tc 0, 8, .inl (fun _ => 0)))] := hD
  refine va_putF (D := (dC, dI)) (ci := 5) (v := .ref q8) (ty := yX5 8) (C := "BoatNames$Voyage") (T := tX5) (N := 12) hx hb hts (cls_ok 5 _ rfl).1 yX5 yX5_ok nX5 hown hK hP hD hS 0 rfl rfl 8 (by decide) (hts _ (tbl_in (List.mem_of_getElem? (i := 126) (by decide +kernel)) rfl)) (fun _ h9 => h9) rfl hin rfl (yX5_ok 8 (by decide)) (by first | rfl | decide) rfl (Nat.le_of_ble_eq_true rfl) (show decode prog_7_method_1_code 70 = .ok (.putfield 37, 3) by decide +kernel) (fun H locs hP hD hS => ?_)
  have hP : va_P (dC, dI) clss [(h0, .inr (5, [.ref t0, .ref q1, .ref q2, .ref q3, .ref q4, .ref q5, .ref q6, .ref q7, .ref q8, .int 0, .int 0, .int 0])), (q1, .inl (tc 0, 64, .inl (fun _ => 0))), (q2, .inl (tc 0, 8, .inl (fun _ => 0))), (q3, .inl (tc 0, 8, .inl (fun _ => 0))), (q4, .inl (tc 0, 8, .inl (fun _ => 0))), (q5, .inl (tc 0, 8, .inl (fun _ => 0))), (q6, .inl (tc 0, 8, .inl (fun _ => 0))), (q7, .inl (tc 0, 8, .inl (fun _ => 0))), (q8, .inl (tc 0, 8, .inl (fun _ => 0)))] H := hP
  have hD : va_D A [(h0, .inr (5, [.ref t0, .ref q1, .ref q2, .ref q3, .ref q4, .ref q5, .ref q6, .ref q7, .ref q8, .int 0, .int 0, .int 0])), (q1, .inl (tc 0, 64, .inl (fun _ => 0))), (q2, .inl (tc 0, 8, .inl (fun _ => 0))), (q3, .inl (tc 0, 8, .inl (fun _ => 0))), (q4, .inl (tc 0, 8, .inl (fun _ => 0))), (q5, .inl (tc 0, 8, .inl (fun _ => 0))), (q6, .inl (tc 0, 8, .inl (fun _ => 0))), (q7, .inl (tc 0, 8, .inl (fun _ => 0))), (q8, .inl (tc 0, 8, .inl (fun _ => 0)))] := hD
  refine lv_aload_n hx hb (show decode prog_7_method_1_code 73 = .ok (.aload_n 0, 1) by decide +kernel) rfl (lv_at hl 0 rfl) ?_
  refine lv_iconst (v := 0) hx hb (show decode prog_7_method_1_code 74 = .ok (.iconst 0, 1) by decide +kernel) (by decide) ?_
  refine va_put (D := (dC, dI)) (ci := 5) (v := .int 0) (ty := yX5 9) (C := "BoatNames$Voyage") (T := tX5) (N := 12) hx hb hts (cls_ok 5 _ rfl).1 yX5 yX5_ok nX5 hown hK hP hD hS 0 rfl rfl 9 (by decide) (hts _ (tbl_in (List.mem_of_getElem? (i := 127) (by decide +kernel)) rfl)) (fun _ h9 => h9) rfl (yX5_ok 9 (by decide)) (by first | rfl | decide) rfl (Nat.le_of_ble_eq_true rfl) (show decode prog_7_method_1_code 75 = .ok (.putfield 40, 3) by decide +kernel) (fun H locs hP hD hS => ?_)
  have hP : va_P (dC, dI) clss [(h0, .inr (5, [.ref t0, .ref q1, .ref q2, .ref q3, .ref q4, .ref q5, .ref q6, .ref q7, .ref q8, .int 0, .int 0, .int 0])), (q1, .inl (tc 0, 64, .inl (fun _ => 0))), (q2, .inl (tc 0, 8, .inl (fun _ => 0))), (q3, .inl (tc 0, 8, .inl (fun _ => 0))), (q4, .inl (tc 0, 8, .inl (fun _ => 0))), (q5, .inl (tc 0, 8, .inl (fun _ => 0))), (q6, .inl (tc 0, 8, .inl (fun _ => 0))), (q7, .inl (tc 0, 8, .inl (fun _ => 0))), (q8, .inl (tc 0, 8, .inl (fun _ => 0)))] H := hP
  have hD : va_D A [(h0, .inr (5, [.ref t0, .ref q1, .ref q2, .ref q3, .ref q4, .ref q5, .ref q6, .ref q7, .ref q8, .int 0, .int 0, .int 0])), (q1, .inl (tc 0, 64, .inl (fun _ => 0))), (q2, .inl (tc 0, 8, .inl (fun _ => 0))), (q3, .inl (tc 0, 8, .inl (fun _ => 0))), (q4, .inl (tc 0, 8, .inl (fun _ => 0))), (q5, .inl (tc 0, 8, .inl (fun _ => 0))), (q6, .inl (tc 0, 8, .inl (fun _ => 0))), (q7, .inl (tc 0, 8, .inl (fun _ => 0))), (q8, .inl (tc 0, 8, .inl (fun _ => 0)))] := hD
  refine lv_aload_n hx hb (show decode prog_7_method_1_code 78 = .ok (.aload_n 0, 1) by decide +kernel) rfl (lv_at hl 0 rfl) ?_
  refine lv_iconst (v := (-1)) hx hb (show decode prog_7_method_1_code 79 = .ok (.iconst (-1), 1) by decide +kernel) (by decide) ?_
  refine va_put (D := (dC, dI)) (ci := 5) (v := .int (-1)) (ty := yX5 10) (C := "BoatNames$Voyage") (T := tX5) (N := 12) hx hb hts (cls_ok 5 _ rfl).1 yX5 yX5_ok nX5 hown hK hP hD hS 0 rfl rfl 10 (by decide) (hts _ (tbl_in (List.mem_of_getElem? (i := 128) (by decide +kernel)) rfl)) (fun _ h9 => h9) rfl (yX5_ok 10 (by decide)) (by first | rfl | decide) rfl (Nat.le_of_ble_eq_true rfl) (show decode prog_7_method_1_code 80 = .ok (.putfield 44, 3) by decide +kernel) (fun H locs hP hD hS => ?_)
  have hP : va_P (dC, dI) clss [(h0, .inr (5, [.ref t0, .ref q1, .ref q2, .ref q3, .ref q4, .ref q5, .ref q6, .ref q7, .ref q8, .int 0, .int (-1), .int 0])), (q1, .inl (tc 0, 64, .inl (fun _ => 0))), (q2, .inl (tc 0, 8, .inl (fun _ => 0))), (q3, .inl (tc 0, 8, .inl (fun _ => 0))), (q4, .inl (tc 0, 8, .inl (fun _ => 0))), (q5, .inl (tc 0, 8, .inl (fun _ => 0))), (q6, .inl (tc 0, 8, .inl (fun _ => 0))), (q7, .inl (tc 0, 8, .inl (fun _ => 0))), (q8, .inl (tc 0, 8, .inl (fun _ => 0)))] H := hP
  have hD : va_D A [(h0, .inr (5, [.ref t0, .ref q1, .ref q2, .ref q3, .ref q4, .ref q5, .ref q6, .ref q7, .ref q8, .int 0, .int (-1), .int 0])), (q1, .inl (tc 0, 64, .inl (fun _ => 0))), (q2, .inl (tc 0, 8, .inl (fun _ => 0))), (q3, .inl (tc 0, 8, .inl (fun _ => 0))), (q4, .inl (tc 0, 8, .inl (fun _ => 0))), (q5, .inl (tc 0, 8, .inl (fun _ => 0))), (q6, .inl (tc 0, 8, .inl (fun _ => 0))), (q7, .inl (tc 0, 8, .inl (fun _ => 0))), (q8, .inl (tc 0, 8, .inl (fun _ => 0)))] := hD
  refine lv_aload_n hx hb (show decode prog_7_method_1_code 83 = .ok (.aload_n 0, 1) by decide +kernel) rfl (lv_at hl 0 rfl) ?_
  refine lv_iconst (v := (-1)) hx hb (show decode prog_7_method_1_code 84 = .ok (.iconst (-1), 1) by decide +kernel) (by decide) ?_
  refine va_put (D := (dC, dI)) (ci := 5) (v := .int (-1)) (ty := yX5 11) (C := "BoatNames$Voyage") (T := tX5) (N := 12) hx hb hts (cls_ok 5 _ rfl).1 yX5 yX5_ok nX5 hown hK hP hD hS 0 rfl rfl 11 (by decide) (hts _ (tbl_in (List.mem_of_getElem? (i := 130) (by decide +kernel)) rfl)) (fun _ h9 => h9) rfl (yX5_ok 11 (by decide)) (by first | rfl | decide) rfl (Nat.le_of_ble_eq_true rfl) (show decode prog_7_method_1_code 85 = .ok (.putfield 47, 3) by decide +kernel) (fun H locs hP hD hS => ?_)
  have hP : va_P (dC, dI) clss [(h0, .inr (5, [.ref t0, .ref q1, .ref q2, .ref q3, .ref q4, .ref q5, .ref q6, .ref q7, .ref q8, .int 0, .int (-1), .int (-1)])), (q1, .inl (tc 0, 64, .inl (fun _ => 0))), (q2, .inl (tc 0, 8, .inl (fun _ => 0))), (q3, .inl (tc 0, 8, .inl (fun _ => 0))), (q4, .inl (tc 0, 8, .inl (fun _ => 0))), (q5, .inl (tc 0, 8, .inl (fun _ => 0))), (q6, .inl (tc 0, 8, .inl (fun _ => 0))), (q7, .inl (tc 0, 8, .inl (fun _ => 0))), (q8, .inl (tc 0, 8, .inl (fun _ => 0)))] H := hP
  have hD : va_D A [(h0, .inr (5, [.ref t0, .ref q1, .ref q2, .ref q3, .ref q4, .ref q5, .ref q6, .ref q7, .ref q8, .int 0, .int (-1), .int (-1)])), (q1, .inl (tc 0, 64, .inl (fun _ => 0))), (q2, .inl (tc 0, 8, .inl (fun _ => 0))), (q3, .inl (tc 0, 8, .inl (fun _ => 0))), (q4, .inl (tc 0, 8, .inl (fun _ => 0))), (q5, .inl (tc 0, 8, .inl (fun _ => 0))), (q6, .inl (tc 0, 8, .inl (fun _ => 0))), (q7, .inl (tc 0, 8, .inl (fun _ => 0))), (q8, .inl (tc 0, 8, .inl (fun _ => 0)))] := hD
  exact W.vret hx hb hr (fun t ht hW => ⟨⟨(), rfl, trivial, _, ⟨q1, q2, q3, q4, q5, q6, q7, q8, rfl⟩, by rw [ht]; exact hP, va_K.moved hW.alike hK, hD⟩, hS.F ht⟩) hS.2.2 (show decode prog_7_method_1_code 88 = .ok (.return_, 1) by decide +kernel)

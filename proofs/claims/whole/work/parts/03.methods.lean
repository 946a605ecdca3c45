abbrev MI : Type := MethodName × ByteArray × Nat × Option FieldType × Nat × List (List (Nat × Instr))
abbrev mnm (M : MI) : MethodName := M.1
abbrev mcd (M : MI) : ByteArray := M.2.1
abbrev mml (M : MI) : Nat := M.2.2.1
abbrev mrt (M : MI) : Option FieldType := M.2.2.2.1
abbrev mow (M : MI) : Nat := M.2.2.2.2.1
abbrev mtb (M : MI) : List (List (Nat × Instr)) := M.2.2.2.2.2
def ilen : Instr → Nat
  | .iload _ => 2 | .istore _ => 2 | .lload _ => 2 | .lstore _ => 2 | .aload _ => 2 | .astore _ => 2 | .bipush _ => 2 | .ldc _ => 2 | .newarray _ => 2
  | .sipush _ => 3 | .getfield _ => 3 | .putfield _ => 3 | .goto _ => 3 | .if_icmp _ _ => 3 | .ifCond _ _ => 3 | .iinc _ _ => 3 | .ldc_w _ => 3 | .ldc2_w _ => 3
  | .invokevirtual _ => 3 | .invokestatic _ => 3 | .invokespecial _ => 3 | .new _ => 3 | .anewarray _ => 3
  | .tableswitch _ _ _ _ => 0 | .lookupswitch _ _ => 0
  | _ => 1
def tchk (M : MI) : Bool := (mtb M).all fun r => r.all fun e => match decode (mcd M) e.1 with
  | .ok (i, n) => decide (i = e.2) && (decide (ilen e.2 = n) || decide (ilen e.2 = 0))
  | _ => false
def fet (M : MI) (pc : Nat) : Option Instr := match (mtb M)[pc / 16]? with
  | some r => r.lookup pc
  | none => none
/-- what the tables say of a method: its code, its class, its parameters -/
def MOK (M : MI) (n : Nat) : Prop := Cond.code (mnm M) (mcd M) (mml M) (mrt M) ∈ tables_1 ∧ Cond.initialized (mnm M).cls ∈ tables_1 ∧ (plainName (mnm M).cls = true ∧ (mnm M).cls ≠ "java/lang/invoke/MethodHandle" ∧ (mnm M).cls ≠ "java/lang/invoke/VarHandle" ∧ (parseMethodDescriptor (mnm M).desc).map (fun d => d.parameters.length) = some n) ∧ tchk M = true ∧ cnm[mow M]? = some (mnm M).cls
def me_B_clear : MI := (⟨"BoatNames$Best", "clear", "()V"⟩, prog_2_method_2_code, 1, none, 0, [
  [(0, .aload_n 0), (1, .iconst (-1)), (2, .putfield 9), (5, .aload_n 0), (6, .iconst 0), (7, .putfield 15), (10, .return_)]])
theorem mok_B_clear : MOK me_B_clear 0 := ⟨List.mem_of_getElem? (i := 457) (by decide +kernel), List.mem_of_getElem? (i := 6) (by decide +kernel), by decide +kernel, by decide +kernel, rfl⟩
def me_B_offer : MI := (⟨"BoatNames$Best", "offer", "(II)V"⟩, prog_2_method_3_code, 3, none, 0, [
  [(0, .aload_n 0), (1, .getfield 9), (4, .iconst (-1)), (5, .if_icmp .eq 11), (8, .iload_n 2), (9, .aload_n 0), (10, .getfield 15), (13, .if_icmp .le 13)],
  [(16, .aload_n 0), (17, .iload_n 1), (18, .putfield 9), (21, .aload_n 0), (22, .iload_n 2), (23, .putfield 15), (26, .return_)]])
theorem mok_B_offer : MOK me_B_offer 2 := ⟨List.mem_of_getElem? (i := 465) (by decide +kernel), List.mem_of_getElem? (i := 6) (by decide +kernel), by decide +kernel, by decide +kernel, rfl⟩
def me_H_renew : MI := (⟨"BoatNames$Sheet", "renew", "(II)V"⟩, prog_3_method_2_code, 3, none, 1, [
  [(0, .aload_n 0), (1, .getfield 9), (4, .iconst 0), (5, .invokestatic 26), (8, .aload_n 0), (9, .iload_n 1), (10, .putfield 15), (13, .aload_n 0), (14, .iload_n 2), (15, .putfield 19)],
  [(18, .aload_n 0), (19, .iconst 0), (20, .putfield 22), (23, .return_)]])
theorem mok_H_renew : MOK me_H_renew 2 := ⟨List.mem_of_getElem? (i := 634) (by decide +kernel), List.mem_of_getElem? (i := 7) (by decide +kernel), by decide +kernel, by decide +kernel, rfl⟩
def me_H_findingAt : MI := (⟨"BoatNames$Sheet", "findingAt", "(II)I"⟩, prog_3_method_3_code, 3, (some .int), 1, [
  [(0, .aload_n 0), (1, .getfield 22), (4, .ifCond .eq 5), (7, .iconst 1), (8, .ireturn), (9, .aload_n 0), (10, .getfield 15), (13, .iload_n 1), (14, .if_icmp .eq 5)],
  [(17, .iconst 3), (18, .ireturn), (19, .iload_n 2), (20, .aload_n 0), (21, .getfield 19), (24, .invokestatic 32), (27, .ifCond .eq 7), (30, .iconst 0), (31, .goto 4)],
  [(34, .iconst 2), (35, .ireturn)]])
theorem mok_H_findingAt : MOK me_H_findingAt 2 := ⟨List.mem_of_getElem? (i := 647) (by decide +kernel), List.mem_of_getElem? (i := 7) (by decide +kernel), by decide +kernel, by decide +kernel, rfl⟩
def me_H_hasItems : MI := (⟨"BoatNames$Sheet", "hasItems", "(II)Z"⟩, prog_3_method_4_code, 3, (some .boolean), 1, [
  [(0, .iload_n 1), (1, .ifCond .lt 29), (4, .iload_n 2), (5, .ifCond .lt 25), (8, .iload_n 2), (9, .aload_n 0), (10, .getfield 19), (13, .if_icmp .gt 17)],
  [(16, .iload_n 1), (17, .aload_n 0), (18, .getfield 19), (21, .iload_n 2), (22, .isub), (23, .if_icmp .gt 7), (26, .iconst 1), (27, .goto 4), (30, .iconst 0), (31, .ireturn)]])
theorem mok_H_hasItems : MOK me_H_hasItems 2 := ⟨List.mem_of_getElem? (i := 665) (by decide +kernel), List.mem_of_getElem? (i := 7) (by decide +kernel), by decide +kernel, by decide +kernel, rfl⟩
def me_H_set : MI := (⟨"BoatNames$Sheet", "set", "(II)V"⟩, prog_3_method_5_code, 3, none, 1, [
  [(0, .aload_n 0), (1, .getfield 9), (4, .iload_n 1), (5, .aload_n 0), (6, .getfield 15), (9, .ifCond .ne 8), (12, .iload_n 2), (13, .i2b), (14, .goto 17)],
  [(17, .aload_n 0), (18, .getfield 15), (21, .iconst 1), (22, .if_icmp .ne 8), (25, .iload_n 2), (26, .i2s), (27, .goto 4), (30, .iload_n 2), (31, .iastore)],
  [(32, .return_)]])
theorem mok_H_set : MOK me_H_set 2 := ⟨List.mem_of_getElem? (i := 652) (by decide +kernel), List.mem_of_getElem? (i := 7) (by decide +kernel), by decide +kernel, by decide +kernel, rfl⟩
def me_G_append : MI := (⟨"BoatNames$Sightings", "append", "(III)V"⟩, prog_4_method_2_code, 4, none, 2, [
  [(0, .aload_n 0), (1, .getfield 9), (4, .aload_n 0), (5, .getfield 21), (8, .iload_n 1), (9, .iastore), (10, .aload_n 0), (11, .getfield 15), (14, .aload_n 0), (15, .getfield 21)],
  [(18, .iload_n 2), (19, .iastore), (20, .aload_n 0), (21, .getfield 18), (24, .aload_n 0), (25, .getfield 21), (28, .iload_n 3), (29, .iastore), (30, .aload_n 0), (31, .dup)],
  [(32, .getfield 21), (35, .iconst 1), (36, .iadd), (37, .putfield 21), (40, .return_)]])
theorem mok_G_append : MOK me_G_append 3 := ⟨List.mem_of_getElem? (i := 527) (by decide +kernel), List.mem_of_getElem? (i := 5) (by decide +kernel), by decide +kernel, by decide +kernel, rfl⟩
def me_G_fit : MI := (⟨"BoatNames$Sightings", "fit", "(LBoatNames$Voyage;)Z"⟩, prog_4_method_3_code, 4, (some .boolean), 2, [
  [(0, .iconst 0), (1, .istore_n 2), (2, .iload_n 2), (3, .aload_n 0), (4, .getfield 21), (7, .if_icmp .ge 62), (10, .aload_n 0), (11, .getfield 15), (14, .iload_n 2), (15, .iaload)],
  [(16, .aload_n 1), (17, .getfield 25), (20, .getfield 31), (23, .if_icmp .ge 7), (26, .iconst 1), (27, .goto 4), (30, .iconst 0), (31, .istore_n 3)],
  [(32, .iload_n 3), (33, .ifCond .eq 28), (36, .aload_n 1), (37, .aload_n 0), (38, .getfield 9), (41, .iload_n 2), (42, .iaload), (43, .aload_n 0), (44, .getfield 15), (47, .iload_n 2)],
  [(48, .iaload), (49, .invokevirtual 35), (52, .aload_n 0), (53, .getfield 18), (56, .iload_n 2), (57, .iaload), (58, .if_icmp .eq 5), (61, .iconst 0), (62, .ireturn), (63, .iinc 2 1)],
  [(66, .goto (-64)), (69, .iconst 1), (70, .ireturn)]])
theorem mok_G_fit : MOK me_G_fit 1 := ⟨List.mem_of_getElem? (i := 543) (by decide +kernel), List.mem_of_getElem? (i := 5) (by decide +kernel), by decide +kernel, by decide +kernel, rfl⟩
def me_T_become : MI := (⟨"BoatNames$Telling", "become", "(LBoatNames$Telling;)V"⟩, prog_5_method_2_code, 2, none, 3, [
  [(0, .aload_n 1), (1, .getfield 9), (4, .iconst 0), (5, .aload_n 0), (6, .getfield 9), (9, .iconst 0), (10, .bipush 64), (12, .invokestatic 49), (15, .aload_n 1)],
  [(16, .getfield 19), (19, .iconst 0), (20, .aload_n 0), (21, .getfield 19), (24, .iconst 0), (25, .bipush 8), (27, .invokestatic 49), (30, .aload_n 1), (31, .getfield 22)],
  [(34, .iconst 0), (35, .aload_n 0), (36, .getfield 22), (39, .iconst 0), (40, .bipush 8), (42, .invokestatic 49), (45, .aload_n 1), (46, .getfield 25)],
  [(49, .iconst 0), (50, .aload_n 0), (51, .getfield 25), (54, .iconst 0), (55, .bipush 8), (57, .invokestatic 49), (60, .aload_n 1), (61, .getfield 28)],
  [(64, .iconst 0), (65, .aload_n 0), (66, .getfield 28), (69, .iconst 0), (70, .bipush 8), (72, .invokestatic 49), (75, .aload_n 0), (76, .aload_n 1), (77, .getfield 31)],
  [(80, .putfield 31), (83, .aload_n 1), (84, .getfield 34), (87, .iconst 0), (88, .aload_n 0), (89, .getfield 34), (92, .iconst 0), (93, .bipush 8), (95, .invokestatic 49)],
  [(98, .aload_n 1), (99, .getfield 37), (102, .iconst 0), (103, .aload_n 0), (104, .getfield 37), (107, .iconst 0), (108, .bipush 8), (110, .invokestatic 49)],
  [(113, .aload_n 1), (114, .getfield 40), (117, .iconst 0), (118, .aload_n 0), (119, .getfield 40), (122, .iconst 0), (123, .bipush 8), (125, .invokestatic 49)],
  [(128, .aload_n 0), (129, .aload_n 1), (130, .getfield 43), (133, .putfield 43), (136, .aload_n 0), (137, .aload_n 1), (138, .getfield 46), (141, .putfield 46)],
  [(144, .return_)]])
theorem mok_T_become : MOK me_T_become 1 := ⟨List.mem_of_getElem? (i := 481) (by decide +kernel), List.mem_of_getElem? (i := 3) (by decide +kernel), by decide +kernel, by decide +kernel, rfl⟩
def me_T_hearHates : MI := (⟨"BoatNames$Telling", "hearHates", "(LBoatNames$Text;)V"⟩, prog_5_method_3_code, 4, none, 3, [
  [(0, .aload_n 1), (1, .invokevirtual 55), (4, .aload_n 0), (5, .getfield 9), (8, .iconst 0), (9, .invokestatic 60), (12, .aload_n 0), (13, .aload_n 1), (14, .getfield 66)],
  [(17, .iconst (-1)), (18, .if_icmp .ne 14), (21, .aload_n 1), (22, .getfield 69), (25, .iconst 1), (26, .iadd), (27, .iconst 4), (28, .idiv), (29, .goto 4)],
  [(32, .iconst 0), (33, .putfield 15), (36, .iconst 0), (37, .istore_n 2), (38, .iload_n 2), (39, .aload_n 0), (40, .getfield 15), (43, .if_icmp .ge 40), (46, .iconst 4), (47, .iload_n 2)],
  [(48, .imul), (49, .istore_n 3), (50, .aload_n 0), (51, .getfield 9), (54, .aload_n 1), (55, .iload_n 3), (56, .invokevirtual 72), (59, .aload_n 1), (60, .iload_n 3), (61, .iconst 1), (62, .iadd), (63, .invokevirtual 72)],
  [(66, .invokestatic 76), (69, .aload_n 1), (70, .iload_n 3), (71, .iconst 2), (72, .iadd), (73, .invokevirtual 72), (76, .iastore), (77, .iinc 2 1)],
  [(80, .goto (-42)), (83, .return_)]])
theorem mok_T_hearHates : MOK me_T_hearHates 1 := ⟨List.mem_of_getElem? (i := 277) (by decide +kernel), List.mem_of_getElem? (i := 3) (by decide +kernel), by decide +kernel, by decide +kernel, rfl⟩
def me_T_hearBoats : MI := (⟨"BoatNames$Telling", "hearBoats", "(LBoatNames$Text;)V"⟩, prog_5_method_4_code, 4, none, 3, [
  [(0, .aload_n 1), (1, .invokevirtual 80), (4, .aload_n 0), (5, .aload_n 1), (6, .getfield 66), (9, .iconst (-1)), (10, .if_icmp .ne 14), (13, .aload_n 1), (14, .getfield 69)],
  [(17, .iconst 1), (18, .iadd), (19, .iconst 5), (20, .idiv), (21, .goto 4), (24, .iconst 0), (25, .putfield 31), (28, .iconst 0), (29, .istore_n 2), (30, .iload_n 2), (31, .aload_n 0)],
  [(32, .getfield 31), (35, .if_icmp .ge 71), (38, .iconst 5), (39, .iload_n 2), (40, .imul), (41, .istore_n 3), (42, .aload_n 0), (43, .getfield 19), (46, .iload_n 2), (47, .aload_n 1)],
  [(48, .getfield 83), (51, .iload_n 3), (52, .iaload), (53, .invokestatic 86), (56, .iastore), (57, .aload_n 0), (58, .getfield 22), (61, .iload_n 2), (62, .aload_n 1), (63, .iload_n 3)],
  [(64, .iconst 1), (65, .iadd), (66, .invokevirtual 72), (69, .iastore), (70, .aload_n 0), (71, .getfield 25), (74, .iload_n 2), (75, .aload_n 1), (76, .getfield 83), (79, .iload_n 3)],
  [(80, .iconst 2), (81, .iadd), (82, .iaload), (83, .bipush 97), (85, .isub), (86, .iastore), (87, .aload_n 0), (88, .getfield 28), (91, .iload_n 2), (92, .aload_n 1), (93, .iload_n 3), (94, .iconst 3), (95, .iadd)],
  [(96, .invokevirtual 72), (99, .iastore), (100, .iinc 2 1), (103, .goto (-73)), (106, .return_)]])
theorem mok_T_hearBoats : MOK me_T_hearBoats 1 := ⟨List.mem_of_getElem? (i := 307) (by decide +kernel), List.mem_of_getElem? (i := 3) (by decide +kernel), by decide +kernel, by decide +kernel, rfl⟩
def me_T_addEvent : MI := (⟨"BoatNames$Telling", "addEvent", "(III)V"⟩, prog_5_method_5_code, 4, none, 3, [
  [(0, .aload_n 0), (1, .getfield 43), (4, .bipush 8), (6, .if_icmp .gt 43), (9, .aload_n 0), (10, .getfield 34), (13, .aload_n 0), (14, .getfield 43)],
  [(17, .iload_n 1), (18, .iastore), (19, .aload_n 0), (20, .getfield 37), (23, .aload_n 0), (24, .getfield 43), (27, .iload_n 2), (28, .iastore), (29, .aload_n 0), (30, .getfield 40)],
  [(33, .aload_n 0), (34, .getfield 43), (37, .iload_n 3), (38, .iastore), (39, .aload_n 0), (40, .dup), (41, .getfield 43), (44, .iconst 1), (45, .iadd), (46, .putfield 43)],
  [(49, .return_)]])
theorem mok_T_addEvent : MOK me_T_addEvent 3 := ⟨List.mem_of_getElem? (i := 355) (by decide +kernel), List.mem_of_getElem? (i := 3) (by decide +kernel), by decide +kernel, by decide +kernel, rfl⟩
def me_T_drawEvents : MI := (⟨"BoatNames$Telling", "drawEvents", "(II)V"⟩, prog_5_method_6_code, 7, none, 3, [
  [(0, .aload_n 0), (1, .iconst 0), (2, .putfield 43), (5, .iload_n 1), (6, .istore_n 3), (7, .iconst 0), (8, .istore 4), (10, .iload 4), (12, .iload_n 2), (13, .if_icmp .ge 63)],
  [(16, .aload_n 0), (17, .getfield 31), (20, .ifCond .le 56), (23, .iload_n 3), (24, .invokestatic 89), (27, .istore 5), (29, .iload 5), (31, .invokestatic 89)],
  [(34, .istore 6), (36, .iload 6), (38, .invokestatic 89), (41, .istore_n 3), (42, .aload_n 0), (43, .iload 5), (45, .bipush 16), (47, .iushr)],
  [(48, .iconst 3), (49, .irem), (50, .iload 6), (52, .bipush 16), (54, .iushr), (55, .bipush 24), (57, .irem), (58, .iload_n 3), (59, .bipush 16), (61, .iushr), (62, .aload_n 0), (63, .getfield 31)],
  [(66, .irem), (67, .invokevirtual 92), (70, .iinc 4 1), (73, .goto (-63)), (76, .return_)]])
theorem mok_T_drawEvents : MOK me_T_drawEvents 2 := ⟨List.mem_of_getElem? (i := 621) (by decide +kernel), List.mem_of_getElem? (i := 3) (by decide +kernel), by decide +kernel, by decide +kernel, rfl⟩
def me_T_nextSeed : MI := (⟨"BoatNames$Telling", "nextSeed", "(I)I"⟩, prog_5_method_7_code, 1, (some .int), 3, [
  [(0, .ldc 96), (2, .iload_n 0), (3, .imul), (4, .sipush 12345), (7, .iadd), (8, .ireturn)]])
theorem mok_T_nextSeed : MOK me_T_nextSeed 1 := ⟨List.mem_of_getElem? (i := 624) (by decide +kernel), List.mem_of_getElem? (i := 3) (by decide +kernel), by decide +kernel, by decide +kernel, rfl⟩
def me_T_isEventOf : MI := (⟨"BoatNames$Telling", "isEventOf", "(II)Z"⟩, prog_5_method_8_code, 3, (some .boolean), 3, [
  [(0, .aload_n 0), (1, .getfield 37), (4, .iload_n 1), (5, .iaload), (6, .iload_n 2), (7, .if_icmp .ne 18), (10, .aload_n 0), (11, .getfield 46), (14, .iload_n 1), (15, .ishr)],
  [(16, .iconst 1), (17, .iand), (18, .ifCond .ne 7), (21, .iconst 1), (22, .goto 4), (25, .iconst 0), (26, .ireturn)]])
theorem mok_T_isEventOf : MOK me_T_isEventOf 2 := ⟨List.mem_of_getElem? (i := 392) (by decide +kernel), List.mem_of_getElem? (i := 3) (by decide +kernel), by decide +kernel, by decide +kernel, rfl⟩
def me_T_weight : MI := (⟨"BoatNames$Telling", "weight", "(I)J"⟩, prog_5_method_9_code, 5, (some .long), 3, [
  [(0, .lconst 1), (1, .lstore_n 2), (2, .iconst 0), (3, .istore 4), (5, .iload 4), (7, .aload_n 0), (8, .getfield 43), (11, .if_icmp .ge 34), (14, .lload_n 2), (15, .aload_n 0)],
  [(16, .getfield 46), (19, .iload 4), (21, .ishr), (22, .iconst 1), (23, .iand), (24, .ifCond .ne 8), (27, .iload_n 1), (28, .i2l), (29, .goto 8)],
  [(32, .bipush 16), (34, .iload_n 1), (35, .isub), (36, .i2l), (37, .lmul), (38, .lstore_n 2), (39, .iinc 4 1), (42, .goto (-37)), (45, .lload_n 2), (46, .lreturn)]])
theorem mok_T_weight : MOK me_T_weight 1 := ⟨List.mem_of_getElem? (i := 597) (by decide +kernel), List.mem_of_getElem? (i := 3) (by decide +kernel), by decide +kernel, by decide +kernel, rfl⟩
def me_T_rowMask : MI := (⟨"BoatNames$Telling", "rowMask", "(I)I"⟩, prog_5_method_10_code, 4, (some .int), 3, [
  [(0, .iconst 0), (1, .istore_n 2), (2, .iconst 0), (3, .istore_n 3), (4, .iload_n 3), (5, .aload_n 0), (6, .getfield 31), (9, .if_icmp .ge 28), (12, .aload_n 0), (13, .getfield 25)],
  [(16, .iload_n 3), (17, .iaload), (18, .iload_n 1), (19, .if_icmp .gt 12), (22, .iload_n 2), (23, .bipush 15), (25, .iconst 4), (26, .iload_n 3), (27, .imul), (28, .ishl), (29, .ior), (30, .istore_n 2), (31, .iinc 3 1)],
  [(34, .goto (-30)), (37, .iload_n 2), (38, .ireturn)]])
theorem mok_T_rowMask : MOK me_T_rowMask 1 := ⟨List.mem_of_getElem? (i := 576) (by decide +kernel), List.mem_of_getElem? (i := 3) (by decide +kernel), by decide +kernel, by decide +kernel, rfl⟩
def me_X_isFull : MI := (⟨"BoatNames$Text", "isFull", "()Z"⟩, prog_6_method_2_code, 1, (some .boolean), 4, [
  [(0, .aload_n 0), (1, .getfield 15), (4, .aload_n 0), (5, .getfield 9), (8, .arraylength), (9, .if_icmp .lt 7), (12, .iconst 1), (13, .goto 4)],
  [(16, .iconst 0), (17, .ireturn)]])
theorem mok_X_isFull : MOK me_X_isFull 0 := ⟨List.mem_of_getElem? (i := 265) (by decide +kernel), List.mem_of_getElem? (i := 2) (by decide +kernel), by decide +kernel, by decide +kernel, rfl⟩
def me_X_append : MI := (⟨"BoatNames$Text", "append", "(I)V"⟩, prog_6_method_3_code, 2, none, 4, [
  [(0, .aload_n 0), (1, .getfield 9), (4, .aload_n 0), (5, .getfield 15), (8, .iload_n 1), (9, .iastore), (10, .aload_n 0), (11, .dup), (12, .getfield 15), (15, .iconst 1)],
  [(16, .iadd), (17, .putfield 15), (20, .return_)]])
theorem mok_X_append : MOK me_X_append 1 := ⟨List.mem_of_getElem? (i := 269) (by decide +kernel), List.mem_of_getElem? (i := 2) (by decide +kernel), by decide +kernel, by decide +kernel, rfl⟩
def me_X_has : MI := (⟨"BoatNames$Text", "has", "(III)Z"⟩, prog_6_method_4_code, 4, (some .boolean), 4, [
  [(0, .aload_n 0), (1, .getfield 9), (4, .iload_n 1), (5, .iaload), (6, .iload_n 2), (7, .if_icmp .lt 17), (10, .aload_n 0), (11, .getfield 9), (14, .iload_n 1), (15, .iaload)],
  [(16, .iload_n 3), (17, .if_icmp .gt 7), (20, .iconst 1), (21, .goto 4), (24, .iconst 0), (25, .ireturn)]])
theorem mok_X_has : MOK me_X_has 3 := ⟨List.mem_of_getElem? (i := 289) (by decide +kernel), List.mem_of_getElem? (i := 2) (by decide +kernel), by decide +kernel, by decide +kernel, rfl⟩
def me_X_figure : MI := (⟨"BoatNames$Text", "figure", "(I)I"⟩, prog_6_method_5_code, 2, (some .int), 4, [
  [(0, .aload_n 0), (1, .getfield 9), (4, .iload_n 1), (5, .iaload), (6, .bipush 48), (8, .isub), (9, .ireturn)]])
theorem mok_X_figure : MOK me_X_figure 1 := ⟨List.mem_of_getElem? (i := 300) (by decide +kernel), List.mem_of_getElem? (i := 2) (by decide +kernel), by decide +kernel, by decide +kernel, rfl⟩
def me_X_findHatesFault : MI := (⟨"BoatNames$Text", "findHatesFault", "()V"⟩, prog_6_method_6_code, 2, none, 4, [
  [(0, .iconst 0), (1, .istore_n 1), (2, .iload_n 1), (3, .aload_n 0), (4, .getfield 15), (7, .if_icmp .ge 23), (10, .aload_n 0), (11, .iload_n 1), (12, .invokevirtual 22), (15, .ifCond .ne 9)],
  [(18, .aload_n 0), (19, .iload_n 1), (20, .putfield 19), (23, .return_), (24, .iinc 1 1), (27, .goto (-25)), (30, .aload_n 0), (31, .aload_n 0)],
  [(32, .iconst 4), (33, .invokevirtual 26), (36, .putfield 19), (39, .return_)]])
theorem mok_X_findHatesFault : MOK me_X_findHatesFault 0 := ⟨List.mem_of_getElem? (i := 281) (by decide +kernel), List.mem_of_getElem? (i := 2) (by decide +kernel), by decide +kernel, by decide +kernel, rfl⟩
def me_X_findBoatsFault : MI := (⟨"BoatNames$Text", "findBoatsFault", "()V"⟩, prog_6_method_7_code, 2, none, 4, [
  [(0, .iconst 0), (1, .istore_n 1), (2, .iload_n 1), (3, .aload_n 0), (4, .getfield 15), (7, .if_icmp .ge 23), (10, .aload_n 0), (11, .iload_n 1), (12, .invokevirtual 30), (15, .ifCond .ne 9)],
  [(18, .aload_n 0), (19, .iload_n 1), (20, .putfield 19), (23, .return_), (24, .iinc 1 1), (27, .goto (-25)), (30, .aload_n 0), (31, .aload_n 0)],
  [(32, .iconst 5), (33, .invokevirtual 26), (36, .putfield 19), (39, .return_)]])
theorem mok_X_findBoatsFault : MOK me_X_findBoatsFault 0 := ⟨List.mem_of_getElem? (i := 311) (by decide +kernel), List.mem_of_getElem? (i := 2) (by decide +kernel), by decide +kernel, by decide +kernel, rfl⟩
def me_X_faultOfEnd : MI := (⟨"BoatNames$Text", "faultOfEnd", "(I)I"⟩, prog_6_method_8_code, 2, (some .int), 4, [
  [(0, .aload_n 0), (1, .getfield 15), (4, .ifCond .eq 15), (7, .aload_n 0), (8, .getfield 15), (11, .iload_n 1), (12, .irem), (13, .iload_n 1), (14, .iconst 1), (15, .isub)],
  [(16, .if_icmp .ne 7), (19, .iconst (-1)), (20, .goto 7), (23, .aload_n 0), (24, .getfield 15), (27, .ireturn)]])
theorem mok_X_faultOfEnd : MOK me_X_faultOfEnd 1 := ⟨List.mem_of_getElem? (i := 293) (by decide +kernel), List.mem_of_getElem? (i := 2) (by decide +kernel), by decide +kernel, by decide +kernel, rfl⟩
def me_X_isHateByte : MI := (⟨"BoatNames$Text", "isHateByte", "(I)Z"⟩, prog_6_method_9_code, 2, (some .boolean), 4, [
  [(0, .iload_n 1), (1, .iconst 4), (2, .irem), (3, .tableswitch 80 0 2 #[25, 35, 70])],
  [(28, .aload_n 0), (29, .iload_n 1), (30, .bipush 48)],
  [(32, .bipush 55), (34, .invokevirtual 33), (37, .ireturn), (38, .aload_n 0), (39, .iload_n 1), (40, .bipush 48), (42, .bipush 55), (44, .invokevirtual 33), (47, .ifCond .eq 24)],
  [(50, .aload_n 0), (51, .getfield 9), (54, .iload_n 1), (55, .iaload), (56, .aload_n 0), (57, .getfield 9), (60, .iload_n 1), (61, .iconst 1), (62, .isub), (63, .iaload)],
  [(64, .if_icmp .eq 7), (67, .iconst 1), (68, .goto 4), (71, .iconst 0), (72, .ireturn), (73, .aload_n 0), (74, .iload_n 1), (75, .bipush 49), (77, .bipush 57), (79, .invokevirtual 33)],
  [(82, .ireturn), (83, .aload_n 0), (84, .getfield 9), (87, .iload_n 1), (88, .iaload), (89, .bipush 59), (91, .if_icmp .ne 7), (94, .iconst 1), (95, .goto 4)],
  [(98, .iconst 0), (99, .ireturn)]])
theorem mok_X_isHateByte : MOK me_X_isHateByte 1 := ⟨List.mem_of_getElem? (i := 285) (by decide +kernel), List.mem_of_getElem? (i := 2) (by decide +kernel), by decide +kernel, by decide +kernel, rfl⟩
def me_X_isBoatByte : MI := (⟨"BoatNames$Text", "isBoatByte", "(I)Z"⟩, prog_6_method_10_code, 2, (some .boolean), 4, [
  [(0, .iload_n 1), (1, .iconst 5), (2, .irem), (3, .tableswitch 78 0 3 #[29, 48, 58, 68])],
  [],
  [(32, .aload_n 0), (33, .getfield 9), (36, .iload_n 1), (37, .iaload), (38, .invokestatic 37), (41, .iconst (-1)), (42, .if_icmp .eq 7), (45, .iconst 1), (46, .goto 4)],
  [(49, .iconst 0), (50, .ireturn), (51, .aload_n 0), (52, .iload_n 1), (53, .bipush 48), (55, .bipush 55), (57, .invokevirtual 33), (60, .ireturn), (61, .aload_n 0), (62, .iload_n 1), (63, .bipush 97)],
  [(65, .bipush 120), (67, .invokevirtual 33), (70, .ireturn), (71, .aload_n 0), (72, .iload_n 1), (73, .bipush 49), (75, .bipush 57), (77, .invokevirtual 33)],
  [(80, .ireturn), (81, .aload_n 0), (82, .getfield 9), (85, .iload_n 1), (86, .iaload), (87, .bipush 59), (89, .if_icmp .ne 7), (92, .iconst 1), (93, .goto 4)],
  [(96, .iconst 0), (97, .ireturn)]])
theorem mok_X_isBoatByte : MOK me_X_isBoatByte 1 := ⟨List.mem_of_getElem? (i := 315) (by decide +kernel), List.mem_of_getElem? (i := 2) (by decide +kernel), by decide +kernel, by decide +kernel, rfl⟩
def me_X_sortOf : MI := (⟨"BoatNames$Text", "sortOf", "(I)I"⟩, prog_6_method_11_code, 1, (some .int), 4, [
  [(0, .iload_n 0), (1, .lookupswitch 41 #[(108, 35), (115, 37), (116, 39)])],
  [],
  [(36, .iconst 0), (37, .ireturn), (38, .iconst 1), (39, .ireturn), (40, .iconst 2), (41, .ireturn), (42, .iconst (-1)), (43, .ireturn)]])
theorem mok_X_sortOf : MOK me_X_sortOf 1 := ⟨List.mem_of_getElem? (i := 318) (by decide +kernel), List.mem_of_getElem? (i := 2) (by decide +kernel), by decide +kernel, by decide +kernel, rfl⟩
def me_V_run : MI := (⟨"BoatNames$Voyage", "run", "(LBoatNames$Telling;I)V"⟩, prog_7_method_2_code, 4, none, 5, [
  [(0, .aload_n 0), (1, .aload_n 1), (2, .invokevirtual 50), (5, .iconst 0), (6, .istore_n 3), (7, .iload_n 3), (8, .iload_n 2), (9, .if_icmp .gt 21), (12, .aload_n 0), (13, .getfield 40)],
  [(16, .ifCond .le 14), (19, .aload_n 0), (20, .iload_n 3), (21, .invokevirtual 54), (24, .iinc 3 1), (27, .goto (-20)), (30, .return_)]])
theorem mok_V_run : MOK me_V_run 2 := ⟨List.mem_of_getElem? (i := 376) (by decide +kernel), List.mem_of_getElem? (i := 4) (by decide +kernel), by decide +kernel, by decide +kernel, rfl⟩
def me_V_begin : MI := (⟨"BoatNames$Voyage", "begin", "(LBoatNames$Telling;)V"⟩, prog_7_method_3_code, 2, none, 5, [
  [(0, .aload_n 0), (1, .aload_n 1), (2, .putfield 9), (5, .aload_n 1), (6, .getfield 58), (9, .iconst 0), (10, .aload_n 0), (11, .getfield 15), (14, .iconst 0), (15, .bipush 64)],
  [(17, .invokestatic 61), (20, .aload_n 1), (21, .getfield 67), (24, .iconst 0), (25, .aload_n 0), (26, .getfield 28), (29, .iconst 0), (30, .bipush 8)],
  [(32, .invokestatic 61), (35, .aload_n 0), (36, .getfield 19), (39, .iconst 0), (40, .invokestatic 68), (43, .aload_n 0), (44, .getfield 22), (47, .iconst (-1))],
  [(48, .invokestatic 68), (51, .aload_n 0), (52, .getfield 25), (55, .iconst 0), (56, .invokestatic 68), (59, .aload_n 0), (60, .getfield 31), (63, .iconst 0)],
  [(64, .invokestatic 68), (67, .aload_n 0), (68, .aload_n 1), (69, .getfield 74), (72, .putfield 40), (75, .aload_n 0), (76, .iconst (-1)), (77, .putfield 44)],
  [(80, .aload_n 0), (81, .iconst (-1)), (82, .putfield 47), (85, .return_)]])
theorem mok_V_begin : MOK me_V_begin 1 := ⟨List.mem_of_getElem? (i := 380) (by decide +kernel), List.mem_of_getElem? (i := 4) (by decide +kernel), by decide +kernel, by decide +kernel, rfl⟩
def me_V_sail : MI := (⟨"BoatNames$Voyage", "sail", "(I)V"⟩, prog_7_method_4_code, 3, none, 5, [
  [(0, .iconst 0), (1, .istore_n 2), (2, .iload_n 2), (3, .aload_n 0), (4, .getfield 9), (7, .getfield 77), (10, .if_icmp .ge 62), (13, .aload_n 0), (14, .getfield 9)],
  [(17, .iload_n 2), (18, .iload_n 1), (19, .invokevirtual 80), (22, .ifCond .eq 44), (25, .aload_n 0), (26, .getfield 9), (29, .getfield 84)],
  [(32, .iload_n 2), (33, .iaload), (34, .ifCond .ne 10), (37, .aload_n 0), (38, .invokevirtual 87), (41, .goto 25), (44, .aload_n 0), (45, .aload_n 0), (46, .getfield 9)],
  [(49, .getfield 84), (52, .iload_n 2), (53, .iaload), (54, .aload_n 0), (55, .getfield 9), (58, .getfield 90), (61, .iload_n 2), (62, .iaload), (63, .invokevirtual 93)],
  [(66, .iinc 2 1), (69, .goto (-67)), (72, .iconst 0), (73, .istore_n 2), (74, .iload_n 2), (75, .aload_n 0), (76, .getfield 9), (79, .getfield 74)],
  [(82, .if_icmp .ge 27), (85, .aload_n 0), (86, .getfield 9), (89, .getfield 97), (92, .iload_n 2), (93, .iaload), (94, .iload_n 1), (95, .if_icmp .ne 8)],
  [(98, .aload_n 0), (99, .iload_n 2), (100, .invokevirtual 100), (103, .iinc 2 1), (106, .goto (-32)), (109, .iconst 0), (110, .istore_n 2), (111, .iload_n 2)],
  [(112, .aload_n 0), (113, .getfield 9), (116, .getfield 74), (119, .if_icmp .ge 25), (122, .aload_n 0), (123, .getfield 19), (126, .iload_n 2), (127, .iaload)],
  [(128, .iconst 1), (129, .if_icmp .ne 9), (132, .aload_n 0), (133, .iload_n 2), (134, .iload_n 1), (135, .invokevirtual 103), (138, .iinc 2 1), (141, .goto (-30))],
  [(144, .return_)]])
theorem mok_V_sail : MOK me_V_sail 1 := ⟨List.mem_of_getElem? (i := 388) (by decide +kernel), List.mem_of_getElem? (i := 4) (by decide +kernel), by decide +kernel, by decide +kernel, rfl⟩
def me_V_storm : MI := (⟨"BoatNames$Voyage", "storm", "()V"⟩, prog_7_method_5_code, 3, none, 5, [
  [(0, .iconst 0), (1, .istore_n 1), (2, .iload_n 1), (3, .aload_n 0), (4, .getfield 9), (7, .getfield 74), (10, .if_icmp .ge 56), (13, .aload_n 0), (14, .getfield 19)],
  [(17, .iload_n 1), (18, .iaload), (19, .iconst 1), (20, .if_icmp .ne 40), (23, .aload_n 0), (24, .getfield 9), (27, .getfield 106), (30, .iload_n 1), (31, .iaload)],
  [(32, .iconst 2), (33, .if_icmp .ne 7), (36, .iconst 2), (37, .goto 4), (40, .iconst 1), (41, .istore_n 2), (42, .aload_n 0), (43, .getfield 28), (46, .iload_n 1), (47, .iconst 0)],
  [(48, .aload_n 0), (49, .getfield 28), (52, .iload_n 1), (53, .iaload), (54, .iload_n 2), (55, .isub), (56, .invokestatic 109), (59, .iastore), (60, .iinc 1 1), (63, .goto (-61))],
  [(66, .return_)]])
theorem mok_V_storm : MOK me_V_storm 0 := ⟨List.mem_of_getElem? (i := 396) (by decide +kernel), List.mem_of_getElem? (i := 4) (by decide +kernel), by decide +kernel, by decide +kernel, rfl⟩
def me_V_settle : MI := (⟨"BoatNames$Voyage", "settle", "(II)V"⟩, prog_7_method_6_code, 4, none, 5, [
  [(0, .aload_n 0), (1, .getfield 19), (4, .iload_n 2), (5, .iaload), (6, .iconst 1), (7, .if_icmp .eq 4), (10, .return_), (11, .aload_n 0), (12, .getfield 34), (15, .iload_n 2)],
  [(16, .iaload), (17, .istore_n 3), (18, .iload_n 1), (19, .iconst 1), (20, .if_icmp .ne 31), (23, .aload_n 0), (24, .getfield 25), (27, .iload_n 2), (28, .iconst 0), (29, .iastore), (30, .aload_n 0), (31, .getfield 15)],
  [(34, .iload_n 3), (35, .iconst 0), (36, .aload_n 0), (37, .getfield 15), (40, .iload_n 3), (41, .iaload), (42, .iconst 1), (43, .isub), (44, .invokestatic 109), (47, .iastore)],
  [(48, .goto 22), (51, .aload_n 0), (52, .getfield 15), (55, .iload_n 3), (56, .iconst 0), (57, .iastore), (58, .aload_n 0), (59, .getfield 15), (62, .aload_n 0), (63, .getfield 37)],
  [(66, .iload_n 2), (67, .iaload), (68, .iconst 0), (69, .iastore), (70, .return_)]])
theorem mok_V_settle : MOK me_V_settle 2 := ⟨List.mem_of_getElem? (i := 403) (by decide +kernel), List.mem_of_getElem? (i := 4) (by decide +kernel), by decide +kernel, by decide +kernel, rfl⟩
def me_V_launch : MI := (⟨"BoatNames$Voyage", "launch", "(I)V"⟩, prog_7_method_7_code, 4, none, 5, [
  [(0, .aload_n 0), (1, .getfield 9), (4, .getfield 115), (7, .iload_n 1), (8, .iaload), (9, .istore_n 2), (10, .aload_n 0), (11, .iload_n 2), (12, .invokevirtual 118), (15, .istore_n 3)],
  [(16, .iload_n 3), (17, .iconst (-1)), (18, .if_icmp .ne 23), (21, .aload_n 0), (22, .getfield 19), (25, .iload_n 1), (26, .iconst 3), (27, .iastore), (28, .aload_n 0), (29, .dup), (30, .getfield 40)],
  [(33, .iconst 1), (34, .isub), (35, .putfield 40), (38, .goto 39), (41, .aload_n 0), (42, .getfield 19), (45, .iload_n 1), (46, .iconst 1), (47, .iastore)],
  [(48, .aload_n 0), (49, .getfield 22), (52, .iload_n 1), (53, .iload_n 3), (54, .iastore), (55, .aload_n 0), (56, .getfield 34), (59, .iload_n 1), (60, .iload_n 3), (61, .iload_n 2), (62, .invokestatic 122)],
  [(65, .iastore), (66, .aload_n 0), (67, .getfield 37), (70, .iload_n 1), (71, .iload_n 2), (72, .iload_n 3), (73, .invokestatic 122), (76, .iastore), (77, .return_)]])
theorem mok_V_launch : MOK me_V_launch 1 := ⟨List.mem_of_getElem? (i := 407) (by decide +kernel), List.mem_of_getElem? (i := 4) (by decide +kernel), by decide +kernel, by decide +kernel, rfl⟩
def me_V_bear : MI := (⟨"BoatNames$Voyage", "bear", "(II)V"⟩, prog_7_method_8_code, 4, none, 5, [
  [(0, .aload_n 0), (1, .getfield 15), (4, .aload_n 0), (5, .getfield 34), (8, .iload_n 1), (9, .iaload), (10, .iaload), (11, .istore_n 3), (12, .aload_n 0), (13, .getfield 25)],
  [(16, .iload_n 1), (17, .dup2), (18, .iaload), (19, .aload_n 0), (20, .getfield 9), (23, .getfield 106), (26, .iload_n 1), (27, .iaload), (28, .iconst 1), (29, .if_icmp .ne 9)],
  [(32, .iload_n 3), (33, .iconst 2), (34, .idiv), (35, .goto 4), (38, .iload_n 3), (39, .iadd), (40, .iastore), (41, .aload_n 0), (42, .getfield 28), (45, .iload_n 1), (46, .iaload), (47, .ifCond .eq 20)],
  [(50, .aload_n 0), (51, .getfield 25), (54, .iload_n 1), (55, .iaload), (56, .iconst 3), (57, .aload_n 0), (58, .getfield 28), (61, .iload_n 1), (62, .iaload), (63, .imul)],
  [(64, .if_icmp .le 12), (67, .aload_n 0), (68, .iload_n 1), (69, .iload_n 2), (70, .invokevirtual 125), (73, .goto 13), (76, .aload_n 0), (77, .getfield 31)],
  [(80, .iload_n 1), (81, .dup2), (82, .iaload), (83, .iconst 1), (84, .iadd), (85, .iastore), (86, .return_)]])
theorem mok_V_bear : MOK me_V_bear 2 := ⟨List.mem_of_getElem? (i := 416) (by decide +kernel), List.mem_of_getElem? (i := 4) (by decide +kernel), by decide +kernel, by decide +kernel, rfl⟩
def me_V_sink : MI := (⟨"BoatNames$Voyage", "sink", "(II)V"⟩, prog_7_method_9_code, 3, none, 5, [
  [(0, .aload_n 0), (1, .getfield 19), (4, .iload_n 1), (5, .iconst 2), (6, .iastore), (7, .aload_n 0), (8, .dup), (9, .getfield 40), (12, .iconst 1), (13, .isub), (14, .putfield 40)],
  [(17, .aload_n 0), (18, .getfield 15), (21, .aload_n 0), (22, .getfield 37), (25, .iload_n 1), (26, .iaload), (27, .iaload), (28, .bipush 9), (30, .if_icmp .ge 18)],
  [(33, .aload_n 0), (34, .getfield 15), (37, .aload_n 0), (38, .getfield 37), (41, .iload_n 1), (42, .iaload), (43, .dup2), (44, .iaload), (45, .iconst 1), (46, .iadd), (47, .iastore)],
  [(48, .aload_n 0), (49, .getfield 44), (52, .iconst (-1)), (53, .if_icmp .ne 13), (56, .aload_n 0), (57, .iload_n 2), (58, .putfield 44), (61, .aload_n 0), (62, .iload_n 1), (63, .putfield 47)],
  [(66, .return_)]])
theorem mok_V_sink : MOK me_V_sink 2 := ⟨List.mem_of_getElem? (i := 420) (by decide +kernel), List.mem_of_getElem? (i := 4) (by decide +kernel), by decide +kernel, by decide +kernel, rfl⟩
def me_V_worstEnemy : MI := (⟨"BoatNames$Voyage", "worstEnemy", "(I)I"⟩, prog_7_method_10_code, 6, (some .int), 5, [
  [(0, .iconst (-1)), (1, .istore_n 2), (2, .iconst 0), (3, .istore_n 3), (4, .iconst 0), (5, .istore 4), (7, .iload 4), (9, .bipush 8), (11, .if_icmp .ge 35), (14, .aload_n 0), (15, .getfield 15)],
  [(18, .iload 4), (20, .bipush 8), (22, .imul), (23, .iload_n 1), (24, .iadd), (25, .iaload), (26, .istore 5), (28, .iload 5), (30, .iload_n 3), (31, .if_icmp .le 9)],
  [(34, .iload 5), (36, .istore_n 3), (37, .iload 4), (39, .istore_n 2), (40, .iinc 4 1), (43, .goto (-36)), (46, .iload_n 2), (47, .ireturn)]])
theorem mok_V_worstEnemy : MOK me_V_worstEnemy 1 := ⟨List.mem_of_getElem? (i := 411) (by decide +kernel), List.mem_of_getElem? (i := 4) (by decide +kernel), by decide +kernel, by decide +kernel, rfl⟩
def me_V_hatredOf : MI := (⟨"BoatNames$Voyage", "hatredOf", "(I)I"⟩, prog_7_method_11_code, 4, (some .int), 5, [
  [(0, .iconst 0), (1, .istore_n 2), (2, .iconst 0), (3, .istore_n 3), (4, .iload_n 3), (5, .bipush 8), (7, .if_icmp .ge 22), (10, .iload_n 2), (11, .aload_n 0), (12, .getfield 15), (15, .iload_n 1)],
  [(16, .iload_n 3), (17, .invokestatic 122), (20, .iaload), (21, .iadd), (22, .istore_n 2), (23, .iinc 3 1), (26, .goto (-22)), (29, .iload_n 2), (30, .ireturn)]])
theorem mok_V_hatredOf : MOK me_V_hatredOf 1 := ⟨List.mem_of_getElem? (i := 461) (by decide +kernel), List.mem_of_getElem? (i := 4) (by decide +kernel), by decide +kernel, by decide +kernel, rfl⟩
def me_V_allHatred : MI := (⟨"BoatNames$Voyage", "allHatred", "()I"⟩, prog_7_method_12_code, 3, (some .int), 5, [
  [(0, .iconst 0), (1, .istore_n 1), (2, .iconst 0), (3, .istore_n 2), (4, .iload_n 2), (5, .bipush 8), (7, .if_icmp .ge 17), (10, .iload_n 1), (11, .aload_n 0), (12, .iload_n 2), (13, .invokevirtual 128)],
  [(16, .iadd), (17, .istore_n 1), (18, .iinc 2 1), (21, .goto (-17)), (24, .iload_n 1), (25, .ireturn)]])
theorem mok_V_allHatred : MOK me_V_allHatred 0 := ⟨List.mem_of_getElem? (i := 683) (by decide +kernel), List.mem_of_getElem? (i := 4) (by decide +kernel), by decide +kernel, by decide +kernel, rfl⟩
def me_V_howMany : MI := (⟨"BoatNames$Voyage", "howMany", "(I)I"⟩, prog_7_method_13_code, 4, (some .int), 5, [
  [(0, .iconst 0), (1, .istore_n 2), (2, .iconst 0), (3, .istore_n 3), (4, .iload_n 3), (5, .aload_n 0), (6, .getfield 9), (9, .getfield 74), (12, .if_icmp .ge 22), (15, .aload_n 0)],
  [(16, .getfield 19), (19, .iload_n 3), (20, .iaload), (21, .iload_n 1), (22, .if_icmp .ne 6), (25, .iinc 2 1), (28, .iinc 3 1), (31, .goto (-27))],
  [(34, .iload_n 2), (35, .ireturn)]])
theorem mok_V_howMany : MOK me_V_howMany 1 := ⟨List.mem_of_getElem? (i := 432) (by decide +kernel), List.mem_of_getElem? (i := 4) (by decide +kernel), by decide +kernel, by decide +kernel, rfl⟩
def me_V_namesakes : MI := (⟨"BoatNames$Voyage", "namesakes", "(IZ)I"⟩, prog_7_method_14_code, 5, (some .int), 5, [
  [(0, .iconst 0), (1, .istore_n 3), (2, .iconst 0), (3, .istore 4), (5, .iload 4), (7, .aload_n 0), (8, .getfield 9), (11, .getfield 74), (14, .if_icmp .ge 38)],
  [(17, .aload_n 0), (18, .getfield 22), (21, .iload 4), (23, .iaload), (24, .iload_n 1), (25, .if_icmp .ne 21), (28, .iload_n 2), (29, .ifCond .eq 14)],
  [(32, .aload_n 0), (33, .getfield 19), (36, .iload 4), (38, .iaload), (39, .iconst 2), (40, .if_icmp .ne 6), (43, .iinc 3 1), (46, .iinc 4 1)],
  [(49, .goto (-44)), (52, .iload_n 3), (53, .ireturn)]])
theorem mok_V_namesakes : MOK me_V_namesakes 2 := ⟨List.mem_of_getElem? (i := 440) (by decide +kernel), List.mem_of_getElem? (i := 4) (by decide +kernel), by decide +kernel, by decide +kernel, rfl⟩
def me_V_nameBehind : MI := (⟨"BoatNames$Voyage", "nameBehind", "(II)I"⟩, prog_7_method_15_code, 4, (some .int), 5, [
  [(0, .aload_n 0), (1, .getfield 9), (4, .getfield 97), (7, .iload_n 2), (8, .iaload), (9, .iload_n 1), (10, .if_icmp .gt 17), (13, .aload_n 0), (14, .getfield 22)],
  [(17, .iload_n 2), (18, .iaload), (19, .iconst (-1)), (20, .if_icmp .eq 7), (23, .iconst 1), (24, .goto 4), (27, .iconst 0), (28, .istore_n 3), (29, .iload_n 3), (30, .ifCond .eq 12)],
  [(33, .aload_n 0), (34, .getfield 22), (37, .iload_n 2), (38, .iaload), (39, .goto 5), (42, .bipush 8), (44, .ireturn)]])
theorem mok_V_nameBehind : MOK me_V_nameBehind 2 := ⟨List.mem_of_getElem? (i := 547) (by decide +kernel), List.mem_of_getElem? (i := 4) (by decide +kernel), by decide +kernel, by decide +kernel, rfl⟩
def me_V_nameRow : MI := (⟨"BoatNames$Voyage", "nameRow", "()I"⟩, prog_7_method_16_code, 3, (some .int), 5, [
  [(0, .iconst 0), (1, .istore_n 1), (2, .iconst 0), (3, .istore_n 2), (4, .iload_n 2), (5, .aload_n 0), (6, .getfield 9), (9, .getfield 74), (12, .if_icmp .ge 23), (15, .iload_n 1)],
  [(16, .aload_n 0), (17, .bipush 23), (19, .iload_n 2), (20, .invokevirtual 131), (23, .iconst 4), (24, .iload_n 2), (25, .imul), (26, .ishl), (27, .ior), (28, .istore_n 1), (29, .iinc 2 1)],
  [(32, .goto (-28)), (35, .iload_n 1), (36, .ireturn)]])
theorem mok_V_nameRow : MOK me_V_nameRow 0 := ⟨List.mem_of_getElem? (i := 563) (by decide +kernel), List.mem_of_getElem? (i := 4) (by decide +kernel), by decide +kernel, by decide +kernel, rfl⟩
def me_N_type : MI := (⟨"BoatNames", "type", "(II)I"⟩, prog_1_method_2_code, 4, (some .int), 6, [
  [(0, .iload_n 1), (1, .iconst 2), (2, .invokestatic 73), (5, .ifCond .eq 13), (8, .iload_n 2), (9, .sipush 256), (12, .invokestatic 73), (15, .ifCond .ne 6)],
  [(18, .bipush (-2)), (20, .ireturn), (21, .aload_n 0), (22, .iload_n 1), (23, .invokevirtual 77), (26, .astore_n 3), (27, .aload_n 3), (28, .invokevirtual 81), (31, .ifCond .eq 6)],
  [(34, .bipush (-4)), (36, .ireturn), (37, .aload_n 3), (38, .iload_n 2), (39, .invokevirtual 85), (42, .aload_n 0), (43, .iload_n 1), (44, .invokevirtual 88), (47, .aload_n 3)],
  [(48, .getfield 91), (51, .ireturn)]])
theorem mok_N_type : MOK me_N_type 2 := ⟨List.mem_of_getElem? (i := 254) (by decide +kernel), List.mem_of_getElem? (i := 1) (by decide +kernel), by decide +kernel, by decide +kernel, rfl⟩
def me_N_wipe : MI := (⟨"BoatNames", "wipe", "(I)I"⟩, prog_1_method_3_code, 4, (some .int), 6, [
  [(0, .iload_n 1), (1, .iconst 2), (2, .invokestatic 73), (5, .ifCond .ne 6), (8, .bipush (-2)), (10, .ireturn), (11, .aload_n 0), (12, .iload_n 1), (13, .invokevirtual 77)],
  [(16, .astore_n 2), (17, .aload_n 2), (18, .getfield 91), (21, .istore_n 3), (22, .aload_n 2), (23, .iconst 0), (24, .putfield 91), (27, .aload_n 0), (28, .iload_n 1), (29, .invokevirtual 88)],
  [(32, .iload_n 3), (33, .ireturn)]])
theorem mok_N_wipe : MOK me_N_wipe 1 := ⟨List.mem_of_getElem? (i := 323) (by decide +kernel), List.mem_of_getElem? (i := 1) (by decide +kernel), by decide +kernel, by decide +kernel, rfl⟩
def me_N_undo : MI := (⟨"BoatNames", "undo", "(I)I"⟩, prog_1_method_4_code, 3, (some .int), 6, [
  [(0, .iload_n 1), (1, .iconst 2), (2, .invokestatic 73), (5, .ifCond .ne 6), (8, .bipush (-2)), (10, .ireturn), (11, .aload_n 0), (12, .iload_n 1), (13, .invokevirtual 77)],
  [(16, .astore_n 2), (17, .aload_n 2), (18, .getfield 91), (21, .ifCond .ne 6), (24, .bipush (-3)), (26, .ireturn), (27, .aload_n 2), (28, .dup), (29, .getfield 91)],
  [(32, .iconst 1), (33, .isub), (34, .putfield 91), (37, .aload_n 0), (38, .iload_n 1), (39, .invokevirtual 88), (42, .aload_n 2), (43, .getfield 91), (46, .ireturn)]])
theorem mok_N_undo : MOK me_N_undo 1 := ⟨List.mem_of_getElem? (i := 327) (by decide +kernel), List.mem_of_getElem? (i := 1) (by decide +kernel), by decide +kernel, by decide +kernel, rfl⟩
def me_N_fault : MI := (⟨"BoatNames", "fault", "(I)I"⟩, prog_1_method_5_code, 2, (some .int), 6, [
  [(0, .iload_n 1), (1, .iconst 2), (2, .invokestatic 73), (5, .ifCond .eq 14), (8, .aload_n 0), (9, .iload_n 1), (10, .invokevirtual 77), (13, .getfield 94)],
  [(16, .goto 5), (19, .bipush (-2)), (21, .ireturn)]])
theorem mok_N_fault : MOK me_N_fault 1 := ⟨List.mem_of_getElem? (i := 331) (by decide +kernel), List.mem_of_getElem? (i := 1) (by decide +kernel), by decide +kernel, by decide +kernel, rfl⟩
def me_N_told : MI := (⟨"BoatNames", "told", "(II)I"⟩, prog_1_method_6_code, 3, (some .int), 6, [
  [(0, .iload_n 1), (1, .iload_n 2), (2, .invokestatic 97), (5, .ifCond .eq 19), (8, .aload_n 0), (9, .getfield 24), (12, .getfield 100), (15, .iload_n 1)],
  [(16, .iload_n 2), (17, .invokestatic 103), (20, .iaload), (21, .goto 5), (24, .bipush (-2)), (26, .ireturn)]])
theorem mok_N_told : MOK me_N_told 2 := ⟨List.mem_of_getElem? (i := 335) (by decide +kernel), List.mem_of_getElem? (i := 1) (by decide +kernel), by decide +kernel, by decide +kernel, rfl⟩
def me_N_boat : MI := (⟨"BoatNames", "boat", "(II)I"⟩, prog_1_method_7_code, 3, (some .int), 6, [
  [(0, .aload_n 0), (1, .iload_n 1), (2, .invokevirtual 107), (5, .ifCond .ne 6), (8, .bipush (-2)), (10, .ireturn), (11, .iload_n 2), (12, .tableswitch 72 0 3 #[32, 42, 52, 62])],
  [],
  [(44, .aload_n 0), (45, .getfield 24)],
  [(48, .getfield 111), (51, .iload_n 1), (52, .iaload), (53, .ireturn), (54, .aload_n 0), (55, .getfield 24), (58, .getfield 114), (61, .iload_n 1), (62, .iaload), (63, .ireturn)],
  [(64, .aload_n 0), (65, .getfield 24), (68, .getfield 117), (71, .iload_n 1), (72, .iaload), (73, .ireturn), (74, .aload_n 0), (75, .getfield 24), (78, .getfield 120)],
  [(81, .iload_n 1), (82, .iaload), (83, .ireturn), (84, .bipush (-2)), (86, .ireturn)]])
theorem mok_N_boat : MOK me_N_boat 2 := ⟨List.mem_of_getElem? (i := 343) (by decide +kernel), List.mem_of_getElem? (i := 1) (by decide +kernel), by decide +kernel, by decide +kernel, rfl⟩
def me_N_event : MI := (⟨"BoatNames", "event", "(III)I"⟩, prog_1_method_8_code, 4, (some .int), 6, [
  [(0, .iload_n 1), (1, .iconst 3), (2, .invokestatic 73), (5, .ifCond .eq 21), (8, .iload_n 2), (9, .bipush 24), (11, .invokestatic 73), (14, .ifCond .eq 12)],
  [(17, .iload_n 3), (18, .bipush 8), (20, .invokestatic 73), (23, .ifCond .ne 6), (26, .bipush (-2)), (28, .ireturn), (29, .aload_n 0), (30, .getfield 24)],
  [(33, .getfield 123), (36, .bipush 8), (38, .if_icmp .lt 6), (41, .bipush (-4)), (43, .ireturn), (44, .aload_n 0), (45, .getfield 24)],
  [(48, .iload_n 1), (49, .iload_n 2), (50, .iload_n 3), (51, .invokevirtual 126), (54, .aload_n 0), (55, .getfield 24), (58, .getfield 123), (61, .ireturn)]])
theorem mok_N_event : MOK me_N_event 3 := ⟨List.mem_of_getElem? (i := 351) (by decide +kernel), List.mem_of_getElem? (i := 1) (by decide +kernel), by decide +kernel, by decide +kernel, rfl⟩
def me_N_back : MI := (⟨"BoatNames", "back", "()I"⟩, prog_1_method_9_code, 1, (some .int), 6, [
  [(0, .aload_n 0), (1, .getfield 24), (4, .getfield 123), (7, .ifCond .ne 6), (10, .bipush (-3)), (12, .ireturn), (13, .aload_n 0), (14, .getfield 24)],
  [(17, .dup), (18, .getfield 123), (21, .iconst 1), (22, .isub), (23, .putfield 123), (26, .aload_n 0), (27, .getfield 24), (30, .getfield 123)],
  [(33, .ireturn)]])
theorem mok_N_back : MOK me_N_back 0 := ⟨List.mem_of_getElem? (i := 359) (by decide +kernel), List.mem_of_getElem? (i := 1) (by decide +kernel), by decide +kernel, by decide +kernel, rfl⟩
def me_N_read : MI := (⟨"BoatNames", "read", "(I)I"⟩, prog_1_method_10_code, 6, (some .int), 6, [
  [(0, .iload_n 1), (1, .iconst 4), (2, .invokestatic 73), (5, .ifCond .ne 6), (8, .bipush (-2)), (10, .ireturn), (11, .aload_n 0), (12, .getfield 56), (15, .iload_n 1)],
  [(16, .aaload), (17, .astore_n 2), (18, .aload_n 2), (19, .getfield 130), (22, .ifCond .eq 9), (25, .aload_n 0), (26, .iconst 1), (27, .invokevirtual 134), (30, .ireturn), (31, .aload_n 2)],
  [(32, .getfield 138), (35, .iconst 3), (36, .idiv), (37, .istore_n 3), (38, .iconst 0), (39, .istore 4), (41, .iload 4), (43, .iload_n 3), (44, .if_icmp .ge 50), (47, .iconst 3)],
  [(48, .iload 4), (50, .imul), (51, .istore 5), (53, .aload_n 0), (54, .aload_n 2), (55, .getfield 139), (58, .iload 5), (60, .iaload), (61, .aload_n 2), (62, .getfield 139)],
  [(65, .iload 5), (67, .iconst 1), (68, .iadd), (69, .iaload), (70, .aload_n 2), (71, .getfield 139), (74, .iload 5), (76, .iconst 2), (77, .iadd), (78, .iaload), (79, .invokevirtual 142)],
  [(82, .ifCond .ge 6), (85, .iload 4), (87, .ireturn), (88, .iinc 4 1), (91, .goto (-50)), (94, .iload_n 3), (95, .ireturn)]])
theorem mok_N_read : MOK me_N_read 1 := ⟨List.mem_of_getElem? (i := 363) (by decide +kernel), List.mem_of_getElem? (i := 1) (by decide +kernel), by decide +kernel, by decide +kernel, rfl⟩
def me_N_hates : MI := (⟨"BoatNames", "hates", "(III)I"⟩, prog_1_method_11_code, 4, (some .int), 6, [
  [(0, .iload_n 1), (1, .bipush 24), (3, .invokestatic 73), (6, .ifCond .eq 11), (9, .iload_n 2), (10, .iload_n 3), (11, .invokestatic 97), (14, .ifCond .ne 6)],
  [(17, .bipush (-2)), (19, .ireturn), (20, .aload_n 0), (21, .getfield 36), (24, .aload_n 0), (25, .getfield 24), (28, .iload_n 1), (29, .invokevirtual 146)],
  [(32, .aload_n 0), (33, .getfield 36), (36, .getfield 150), (39, .iload_n 2), (40, .iload_n 3), (41, .invokestatic 103), (44, .iaload), (45, .ireturn)]])
theorem mok_N_hates : MOK me_N_hates 3 := ⟨List.mem_of_getElem? (i := 372) (by decide +kernel), List.mem_of_getElem? (i := 1) (by decide +kernel), by decide +kernel, by decide +kernel, rfl⟩
def me_N_at : MI := (⟨"BoatNames", "at", "(III)I"⟩, prog_1_method_12_code, 4, (some .int), 6, [
  [(0, .iload_n 1), (1, .bipush 24), (3, .invokestatic 73), (6, .ifCond .eq 19), (9, .aload_n 0), (10, .iload_n 2), (11, .invokevirtual 107), (14, .ifCond .eq 11)],
  [(17, .iload_n 3), (18, .iconst 4), (19, .invokestatic 73), (22, .ifCond .ne 6), (25, .bipush (-2)), (27, .ireturn), (28, .aload_n 0), (29, .getfield 36)],
  [(32, .aload_n 0), (33, .getfield 24), (36, .iload_n 1), (37, .invokevirtual 146), (40, .iload_n 3), (41, .tableswitch 57 0 2 #[27, 37, 47])],
  [],
  [(68, .aload_n 0), (69, .getfield 36), (72, .getfield 151), (75, .iload_n 2), (76, .iaload), (77, .ireturn), (78, .aload_n 0), (79, .getfield 36)],
  [(82, .getfield 154), (85, .iload_n 2), (86, .iaload), (87, .ireturn), (88, .aload_n 0), (89, .getfield 36), (92, .getfield 157), (95, .iload_n 2)],
  [(96, .iaload), (97, .ireturn), (98, .aload_n 0), (99, .getfield 36), (102, .getfield 160), (105, .iload_n 2), (106, .iaload), (107, .ireturn)]])
theorem mok_N_at : MOK me_N_at 3 := ⟨List.mem_of_getElem? (i := 424) (by decide +kernel), List.mem_of_getElem? (i := 1) (by decide +kernel), by decide +kernel, by decide +kernel, rfl⟩
def me_N_afloat : MI := (⟨"BoatNames", "afloat", "(I)I"⟩, prog_1_method_13_code, 2, (some .int), 6, [
  [(0, .iload_n 1), (1, .bipush 24), (3, .invokestatic 73), (6, .ifCond .ne 6), (9, .bipush (-2)), (11, .ireturn), (12, .aload_n 0), (13, .getfield 36)],
  [(16, .aload_n 0), (17, .getfield 24), (20, .iload_n 1), (21, .invokevirtual 146), (24, .aload_n 0), (25, .getfield 36), (28, .iconst 1), (29, .invokevirtual 161)],
  [(32, .ireturn)]])
theorem mok_N_afloat : MOK me_N_afloat 1 := ⟨List.mem_of_getElem? (i := 428) (by decide +kernel), List.mem_of_getElem? (i := 1) (by decide +kernel), by decide +kernel, by decide +kernel, rfl⟩
def me_N_named : MI := (⟨"BoatNames", "named", "(II)I"⟩, prog_1_method_14_code, 3, (some .int), 6, [
  [(0, .iload_n 1), (1, .bipush 8), (3, .invokestatic 73), (6, .ifCond .eq 11), (9, .iload_n 2), (10, .iconst 2), (11, .invokestatic 73), (14, .ifCond .ne 6)],
  [(17, .bipush (-2)), (19, .ireturn), (20, .aload_n 0), (21, .getfield 36), (24, .aload_n 0), (25, .getfield 24), (28, .bipush 23), (30, .invokevirtual 146)],
  [(33, .aload_n 0), (34, .getfield 36), (37, .iload_n 1), (38, .iload_n 2), (39, .iconst 1), (40, .if_icmp .ne 7), (43, .iconst 1), (44, .goto 4), (47, .iconst 0)],
  [(48, .invokevirtual 164), (51, .ireturn)]])
theorem mok_N_named : MOK me_N_named 2 := ⟨List.mem_of_getElem? (i := 436) (by decide +kernel), List.mem_of_getElem? (i := 1) (by decide +kernel), by decide +kernel, by decide +kernel, rfl⟩
def me_N_first : MI := (⟨"BoatNames", "first", "(I)I"⟩, prog_1_method_15_code, 2, (some .int), 6, [
  [(0, .iload_n 1), (1, .iconst 2), (2, .invokestatic 73), (5, .ifCond .ne 6), (8, .bipush (-2)), (10, .ireturn), (11, .aload_n 0), (12, .getfield 36), (15, .aload_n 0)],
  [(16, .getfield 24), (19, .bipush 23), (21, .invokevirtual 146), (24, .iload_n 1), (25, .ifCond .ne 13), (28, .aload_n 0), (29, .getfield 36)],
  [(32, .getfield 168), (35, .goto 10), (38, .aload_n 0), (39, .getfield 36), (42, .getfield 171), (45, .ireturn)]])
theorem mok_N_first : MOK me_N_first 1 := ⟨List.mem_of_getElem? (i := 444) (by decide +kernel), List.mem_of_getElem? (i := 1) (by decide +kernel), by decide +kernel, by decide +kernel, rfl⟩
def me_N_loved : MI := (⟨"BoatNames", "loved", "()I"⟩, prog_1_method_16_code, 3, (some .int), 6, [
  [(0, .aload_n 0), (1, .getfield 36), (4, .aload_n 0), (5, .getfield 24), (8, .bipush 23), (10, .invokevirtual 146), (13, .iconst 0), (14, .istore_n 1), (15, .iconst 0)],
  [(16, .istore_n 2), (17, .iload_n 2), (18, .bipush 8), (20, .if_icmp .ge 27), (23, .aload_n 0), (24, .getfield 36), (27, .iload_n 2), (28, .invokevirtual 174), (31, .iconst (-1))],
  [(32, .if_icmp .ne 9), (35, .iload_n 1), (36, .iconst 1), (37, .iload_n 2), (38, .ishl), (39, .ior), (40, .istore_n 1), (41, .iinc 2 1), (44, .goto (-27)), (47, .iload_n 1)],
  [(48, .ireturn)]])
theorem mok_N_loved : MOK me_N_loved 0 := ⟨List.mem_of_getElem? (i := 448) (by decide +kernel), List.mem_of_getElem? (i := 1) (by decide +kernel), by decide +kernel, by decide +kernel, rfl⟩
def me_N_bitter : MI := (⟨"BoatNames", "bitter", "()I"⟩, prog_1_method_17_code, 2, (some .int), 6, [
  [(0, .aload_n 0), (1, .getfield 36), (4, .aload_n 0), (5, .getfield 24), (8, .bipush 23), (10, .invokevirtual 146), (13, .aload_n 0), (14, .getfield 50)],
  [(17, .invokevirtual 177), (20, .iconst 0), (21, .istore_n 1), (22, .iload_n 1), (23, .bipush 8), (25, .if_icmp .ge 25), (28, .aload_n 0), (29, .getfield 50)],
  [(32, .iload_n 1), (33, .aload_n 0), (34, .getfield 36), (37, .iload_n 1), (38, .invokevirtual 180), (41, .invokevirtual 183), (44, .iinc 1 1), (47, .goto (-25))],
  [(50, .aload_n 0), (51, .getfield 50), (54, .getfield 187), (57, .ireturn)]])
theorem mok_N_bitter : MOK me_N_bitter 0 := ⟨List.mem_of_getElem? (i := 453) (by decide +kernel), List.mem_of_getElem? (i := 1) (by decide +kernel), by decide +kernel, by decide +kernel, rfl⟩
def me_N_longs : MI := (⟨"BoatNames", "longs", "(I)I"⟩, prog_1_method_18_code, 2, (some .int), 6, [
  [(0, .aload_n 0), (1, .iload_n 1), (2, .invokevirtual 107), (5, .ifCond .ne 6), (8, .bipush (-2)), (10, .ireturn), (11, .aload_n 0), (12, .getfield 36), (15, .aload_n 0)],
  [(16, .getfield 24), (19, .bipush 23), (21, .invokevirtual 146), (24, .aload_n 0), (25, .getfield 36), (28, .getfield 190), (31, .iload_n 1)],
  [(32, .iaload), (33, .ireturn)]])
theorem mok_N_longs : MOK me_N_longs 1 := ⟨List.mem_of_getElem? (i := 469) (by decide +kernel), List.mem_of_getElem? (i := 1) (by decide +kernel), by decide +kernel, by decide +kernel, rfl⟩
def me_N_wrong : MI := (⟨"BoatNames", "wrong", "(II)I"⟩, prog_1_method_19_code, 3, (some .int), 6, [
  [(0, .aload_n 0), (1, .iload_n 1), (2, .invokevirtual 107), (5, .ifCond .eq 11), (8, .iload_n 2), (9, .iconst 2), (10, .invokestatic 73), (13, .ifCond .ne 6)],
  [(16, .bipush (-2)), (18, .ireturn), (19, .aload_n 0), (20, .iload_n 1), (21, .invokevirtual 193), (24, .iload_n 2), (25, .ifCond .ne 13), (28, .aload_n 0), (29, .getfield 50)],
  [(32, .getfield 187), (35, .goto 10), (38, .aload_n 0), (39, .getfield 50), (42, .getfield 196), (45, .ireturn)]])
theorem mok_N_wrong : MOK me_N_wrong 2 := ⟨List.mem_of_getElem? (i := 473) (by decide +kernel), List.mem_of_getElem? (i := 1) (by decide +kernel), by decide +kernel, by decide +kernel, rfl⟩
def me_N_pay : MI := (⟨"BoatNames", "pay", "(II)I"⟩, prog_1_method_20_code, 3, (some .int), 6, [
  [(0, .aload_n 0), (1, .iload_n 1), (2, .invokevirtual 107), (5, .ifCond .eq 11), (8, .iload_n 2), (9, .iconst 2), (10, .invokestatic 73), (13, .ifCond .ne 6)],
  [(16, .bipush (-2)), (18, .ireturn), (19, .aload_n 0), (20, .iload_n 1), (21, .invokevirtual 199), (24, .iload_n 2), (25, .ifCond .ne 13), (28, .aload_n 0), (29, .getfield 50)],
  [(32, .getfield 187), (35, .goto 10), (38, .aload_n 0), (39, .getfield 50), (42, .getfield 196), (45, .ireturn)]])
theorem mok_N_pay : MOK me_N_pay 2 := ⟨List.mem_of_getElem? (i := 486) (by decide +kernel), List.mem_of_getElem? (i := 1) (by decide +kernel), by decide +kernel, by decide +kernel, rfl⟩
def me_N_waits : MI := (⟨"BoatNames", "waits", "(II)I"⟩, prog_1_method_21_code, 3, (some .int), 6, [
  [(0, .aload_n 0), (1, .iload_n 1), (2, .invokevirtual 107), (5, .ifCond .eq 11), (8, .iload_n 2), (9, .iconst 2), (10, .invokestatic 73), (13, .ifCond .ne 6)],
  [(16, .bipush (-2)), (18, .ireturn), (19, .aload_n 0), (20, .iload_n 1), (21, .invokevirtual 202), (24, .iload_n 2), (25, .ifCond .ne 13), (28, .aload_n 0), (29, .getfield 50)],
  [(32, .getfield 187), (35, .goto 11), (38, .aload_n 0), (39, .getfield 50), (42, .getfield 196), (45, .ineg), (46, .ireturn)]])
theorem mok_N_waits : MOK me_N_waits 2 := ⟨List.mem_of_getElem? (i := 494) (by decide +kernel), List.mem_of_getElem? (i := 1) (by decide +kernel), by decide +kernel, by decide +kernel, rfl⟩
def me_N_spare : MI := (⟨"BoatNames", "spare", "(I)I"⟩, prog_1_method_22_code, 3, (some .int), 6, [
  [(0, .iload_n 1), (1, .iconst (-1)), (2, .if_icmp .lt 8), (5, .iload_n 1), (6, .iconst 1), (7, .if_icmp .le 6), (10, .bipush (-2)), (12, .ireturn), (13, .aload_n 0), (14, .invokevirtual 205)],
  [(17, .istore_n 2), (18, .iload_n 2), (19, .iconst (-1)), (20, .if_icmp .ne 5), (23, .iconst (-1)), (24, .ireturn), (25, .iload_n 1), (26, .iconst (-1)), (27, .if_icmp .ne 10), (30, .iload_n 2), (31, .invokestatic 209)],
  [(34, .goto 8), (37, .iload_n 2), (38, .iload_n 1), (39, .invokestatic 214), (42, .ireturn)]])
theorem mok_N_spare : MOK me_N_spare 1 := ⟨List.mem_of_getElem? (i := 502) (by decide +kernel), List.mem_of_getElem? (i := 1) (by decide +kernel), by decide +kernel, by decide +kernel, rfl⟩
def me_N_seen : MI := (⟨"BoatNames", "seen", "(III)I"⟩, prog_1_method_23_code, 4, (some .int), 6, [
  [(0, .iload_n 1), (1, .bipush 24), (3, .invokestatic 73), (6, .ifCond .eq 21), (9, .iload_n 2), (10, .bipush 8), (12, .invokestatic 73), (15, .ifCond .eq 12)],
  [(18, .iload_n 3), (19, .bipush 9), (21, .invokestatic 73), (24, .ifCond .ne 6), (27, .bipush (-2)), (29, .ireturn), (30, .aload_n 0), (31, .getfield 43)],
  [(34, .getfield 217), (37, .bipush 8), (39, .if_icmp .lt 6), (42, .bipush (-4)), (44, .ireturn), (45, .aload_n 0), (46, .getfield 43)],
  [(49, .iload_n 1), (50, .iload_n 2), (51, .iload_n 3), (52, .invokevirtual 218), (55, .aload_n 0), (56, .getfield 43), (59, .getfield 217), (62, .ireturn)]])
theorem mok_N_seen : MOK me_N_seen 3 := ⟨List.mem_of_getElem? (i := 523) (by decide +kernel), List.mem_of_getElem? (i := 1) (by decide +kernel), by decide +kernel, by decide +kernel, rfl⟩
def me_N_forget : MI := (⟨"BoatNames", "forget", "()I"⟩, prog_1_method_24_code, 2, (some .int), 6, [
  [(0, .aload_n 0), (1, .getfield 43), (4, .getfield 217), (7, .istore_n 1), (8, .aload_n 0), (9, .getfield 43), (12, .iconst 0), (13, .putfield 217)],
  [(16, .iload_n 1), (17, .ireturn)]])
theorem mok_N_forget : MOK me_N_forget 0 := ⟨List.mem_of_getElem? (i := 531) (by decide +kernel), List.mem_of_getElem? (i := 1) (by decide +kernel), by decide +kernel, by decide +kernel, rfl⟩
def me_N_never : MI := (⟨"BoatNames", "never", "()I"⟩, prog_1_method_25_code, 3, (some .int), 6, [
  [(0, .aload_n 0), (1, .getfield 28), (4, .aload_n 0), (5, .getfield 24), (8, .invokevirtual 220), (11, .iconst 0), (12, .istore_n 1), (13, .iconst 0), (14, .istore_n 2), (15, .iload_n 2)],
  [(16, .aload_n 0), (17, .getfield 24), (20, .getfield 123), (23, .if_icmp .ge 32), (26, .aload_n 0), (27, .getfield 28), (30, .iconst 1), (31, .iload_n 2)],
  [(32, .ishl), (33, .putfield 223), (36, .aload_n 0), (37, .invokevirtual 226), (40, .ifCond .eq 9), (43, .iload_n 1), (44, .iconst 1), (45, .iload_n 2), (46, .ishl), (47, .ior)],
  [(48, .istore_n 1), (49, .iinc 2 1), (52, .goto (-37)), (55, .iload_n 1), (56, .ireturn)]])
theorem mok_N_never : MOK me_N_never 0 := ⟨List.mem_of_getElem? (i := 535) (by decide +kernel), List.mem_of_getElem? (i := 1) (by decide +kernel), by decide +kernel, by decide +kernel, rfl⟩
def me_N_sort : MI := (⟨"BoatNames", "sort", "(I)I"⟩, prog_1_method_26_code, 4, (some .int), 6, [
  [(0, .aload_n 0), (1, .iload_n 1), (2, .invokevirtual 107), (5, .ifCond .ne 6), (8, .bipush (-2)), (10, .ireturn), (11, .aload_n 0), (12, .getfield 28), (15, .aload_n 0)],
  [(16, .getfield 24), (19, .invokevirtual 220), (22, .iconst 0), (23, .istore_n 2), (24, .iconst 0), (25, .istore_n 3), (26, .iload_n 3), (27, .iconst 3), (28, .if_icmp .ge 32), (31, .aload_n 0)],
  [(32, .getfield 28), (35, .getfield 111), (38, .iload_n 1), (39, .iload_n 3), (40, .iastore), (41, .aload_n 0), (42, .invokevirtual 226), (45, .ifCond .eq 9)],
  [(48, .iload_n 2), (49, .iconst 1), (50, .iload_n 3), (51, .ishl), (52, .ior), (53, .istore_n 2), (54, .iinc 3 1), (57, .goto (-31)), (60, .iload_n 2), (61, .ireturn)]])
theorem mok_N_sort : MOK me_N_sort 1 := ⟨List.mem_of_getElem? (i := 551) (by decide +kernel), List.mem_of_getElem? (i := 1) (by decide +kernel), by decide +kernel, by decide +kernel, rfl⟩
def me_N_hated : MI := (⟨"BoatNames", "hated", "(II)I"⟩, prog_1_method_27_code, 3, (some .int), 6, [
  [(0, .iload_n 1), (1, .iload_n 2), (2, .invokestatic 97), (5, .ifCond .eq 12), (8, .aload_n 0), (9, .iload_n 1), (10, .iload_n 2), (11, .invokevirtual 229), (14, .goto 5)],
  [(17, .bipush (-2)), (19, .ireturn)]])
theorem mok_N_hated : MOK me_N_hated 2 := ⟨List.mem_of_getElem? (i := 555) (by decide +kernel), List.mem_of_getElem? (i := 1) (by decide +kernel), by decide +kernel, by decide +kernel, rfl⟩
def me_N_ask : MI := (⟨"BoatNames", "ask", "(II)I"⟩, prog_1_method_28_code, 3, (some .int), 6, [
  [(0, .iload_n 1), (1, .iload_n 2), (2, .invokestatic 97), (5, .ifCond .ne 6), (8, .bipush (-2)), (10, .ireturn), (11, .aload_n 0), (12, .aload_n 0), (13, .iload_n 1), (14, .iload_n 2), (15, .invokevirtual 229)],
  [(18, .invokevirtual 232), (21, .ireturn)]])
theorem mok_N_ask : MOK me_N_ask 2 := ⟨List.mem_of_getElem? (i := 568) (by decide +kernel), List.mem_of_getElem? (i := 1) (by decide +kernel), by decide +kernel, by decide +kernel, rfl⟩
def me_N_chance : MI := (⟨"BoatNames", "chance", "(III)J"⟩, prog_1_method_29_code, 4, (some .long), 6, [
  [(0, .iload_n 1), (1, .bipush 17), (3, .invokestatic 73), (6, .ifCond .eq 19), (9, .aload_n 0), (10, .iload_n 2), (11, .invokevirtual 107), (14, .ifCond .eq 11)],
  [(17, .iload_n 3), (18, .iconst 2), (19, .invokestatic 73), (22, .ifCond .ne 7), (25, .ldc2_w 237), (28, .lreturn), (29, .aload_n 0), (30, .iload_n 1), (31, .invokevirtual 239)],
  [(34, .iload_n 3), (35, .ifCond .ne 11), (38, .aload_n 0), (39, .iload_n 2), (40, .invokevirtual 242), (43, .goto 8), (46, .aload_n 0), (47, .iload_n 2)],
  [(48, .invokevirtual 246), (51, .lreturn)]])
theorem mok_N_chance : MOK me_N_chance 3 := ⟨List.mem_of_getElem? (i := 585) (by decide +kernel), List.mem_of_getElem? (i := 1) (by decide +kernel), by decide +kernel, by decide +kernel, rfl⟩
def me_N_decades : MI := (⟨"BoatNames", "decades", "(III)I"⟩, prog_1_method_30_code, 4, (some .int), 6, [
  [(0, .iload_n 2), (1, .bipush 9), (3, .invokestatic 73), (6, .ifCond .eq 11), (9, .iload_n 3), (10, .iconst 2), (11, .invokestatic 73), (14, .ifCond .ne 6)],
  [(17, .bipush (-2)), (19, .ireturn), (20, .aload_n 0), (21, .getfield 28), (24, .aload_n 0), (25, .getfield 24), (28, .invokevirtual 220), (31, .aload_n 0)],
  [(32, .getfield 28), (35, .iload_n 1), (36, .iload_n 2), (37, .invokevirtual 249), (40, .aload_n 0), (41, .getfield 36), (44, .aload_n 0), (45, .getfield 28)],
  [(48, .bipush 23), (50, .invokevirtual 146), (53, .aload_n 0), (54, .getfield 36), (57, .iload_n 3), (58, .ifCond .ne 7), (61, .iconst 2), (62, .goto 4)],
  [(65, .iconst 1), (66, .invokevirtual 161), (69, .ireturn)]])
theorem mok_N_decades : MOK me_N_decades 3 := ⟨List.mem_of_getElem? (i := 617) (by decide +kernel), List.mem_of_getElem? (i := 1) (by decide +kernel), by decide +kernel, by decide +kernel, rfl⟩
def me_N_sheet : MI := (⟨"BoatNames", "sheet", "(III)I"⟩, prog_1_method_31_code, 4, (some .int), 6, [
  [(0, .iload_n 1), (1, .iconst 4), (2, .invokestatic 73), (5, .ifCond .eq 17), (8, .iload_n 2), (9, .iconst 3), (10, .invokestatic 73), (13, .ifCond .eq 9)],
  [(16, .iload_n 3), (17, .bipush 60), (19, .if_icmp .le 6), (22, .bipush (-2)), (24, .ireturn), (25, .iload_n 3), (26, .ifCond .ge 9), (29, .aload_n 0), (30, .iconst 5), (31, .invokevirtual 134)],
  [(34, .ireturn), (35, .aload_n 0), (36, .getfield 56), (39, .iload_n 1), (40, .aaload), (41, .iload_n 2), (42, .iload_n 3), (43, .invokevirtual 252), (46, .iload_n 3), (47, .ireturn)]])
theorem mok_N_sheet : MOK me_N_sheet 3 := ⟨List.mem_of_getElem? (i := 630) (by decide +kernel), List.mem_of_getElem? (i := 1) (by decide +kernel), by decide +kernel, by decide +kernel, rfl⟩
def me_N_lose : MI := (⟨"BoatNames", "lose", "(I)I"⟩, prog_1_method_32_code, 3, (some .int), 6, [
  [(0, .iload_n 1), (1, .iconst 4), (2, .invokestatic 73), (5, .ifCond .ne 6), (8, .bipush (-2)), (10, .ireturn), (11, .aload_n 0), (12, .getfield 56), (15, .iload_n 1)],
  [(16, .aaload), (17, .astore_n 2), (18, .aload_n 2), (19, .getfield 130), (22, .ifCond .eq 9), (25, .aload_n 0), (26, .iconst 1), (27, .invokevirtual 134), (30, .ireturn), (31, .aload_n 2)],
  [(32, .iconst 1), (33, .putfield 130), (36, .aload_n 2), (37, .getfield 138), (40, .ireturn)]])
theorem mok_N_lose : MOK me_N_lose 1 := ⟨List.mem_of_getElem? (i := 639) (by decide +kernel), List.mem_of_getElem? (i := 1) (by decide +kernel), by decide +kernel, by decide +kernel, rfl⟩
def me_N_put : MI := (⟨"BoatNames", "put", "(IIII)I"⟩, prog_1_method_33_code, 6, (some .int), 6, [
  [(0, .iload_n 1), (1, .iconst 4), (2, .invokestatic 73), (5, .ifCond .eq 11), (8, .iload_n 2), (9, .iconst 3), (10, .invokestatic 73), (13, .ifCond .ne 6)],
  [(16, .bipush (-2)), (18, .ireturn), (19, .aload_n 0), (20, .getfield 56), (23, .iload_n 1), (24, .aaload), (25, .iload_n 2), (26, .iload_n 3), (27, .invokevirtual 255), (30, .istore 5)],
  [(32, .iload 5), (34, .ifCond .eq 10), (37, .aload_n 0), (38, .iload 5), (40, .invokevirtual 134), (43, .ireturn), (44, .aload_n 0), (45, .getfield 56)],
  [(48, .iload_n 1), (49, .aaload), (50, .iload_n 3), (51, .iload 4), (53, .invokevirtual 258), (56, .iconst 1), (57, .ireturn)]])
theorem mok_N_put : MOK me_N_put 4 := ⟨List.mem_of_getElem? (i := 643) (by decide +kernel), List.mem_of_getElem? (i := 1) (by decide +kernel), by decide +kernel, by decide +kernel, rfl⟩
def me_N_get : MI := (⟨"BoatNames", "get", "(III)I"⟩, prog_1_method_34_code, 5, (some .int), 6, [
  [(0, .iload_n 1), (1, .iconst 4), (2, .invokestatic 73), (5, .ifCond .eq 11), (8, .iload_n 2), (9, .iconst 3), (10, .invokestatic 73), (13, .ifCond .ne 7)],
  [(16, .ldc_w 261), (19, .ireturn), (20, .aload_n 0), (21, .getfield 56), (24, .iload_n 1), (25, .aaload), (26, .iload_n 2), (27, .iload_n 3), (28, .invokevirtual 255), (31, .istore 4)],
  [(33, .iload 4), (35, .ifCond .eq 13), (38, .aload_n 0), (39, .iload 4), (41, .putfield 69), (44, .ldc_w 261), (47, .ireturn)],
  [(48, .aload_n 0), (49, .getfield 56), (52, .iload_n 1), (53, .aaload), (54, .getfield 139), (57, .iload_n 3), (58, .iaload), (59, .ireturn)]])
theorem mok_N_get : MOK me_N_get 3 := ⟨List.mem_of_getElem? (i := 656) (by decide +kernel), List.mem_of_getElem? (i := 1) (by decide +kernel), by decide +kernel, by decide +kernel, rfl⟩
def me_N_copy : MI := (⟨"BoatNames", "copy", "(IIIII)I"⟩, prog_1_method_35_code, 8, (some .int), 6, [
  [(0, .iload_n 1), (1, .iconst 4), (2, .invokestatic 73), (5, .ifCond .eq 11), (8, .iload_n 3), (9, .iconst 4), (10, .invokestatic 73), (13, .ifCond .ne 6)],
  [(16, .bipush (-2)), (18, .ireturn), (19, .aload_n 0), (20, .getfield 56), (23, .iload_n 1), (24, .aaload), (25, .astore 6), (27, .aload_n 0), (28, .getfield 56), (31, .iload_n 3)],
  [(32, .aaload), (33, .astore 7), (35, .aload 6), (37, .getfield 130), (40, .ifCond .ne 11), (43, .aload 7), (45, .getfield 130)],
  [(48, .ifCond .eq 9), (51, .aload_n 0), (52, .iconst 1), (53, .invokevirtual 134), (56, .ireturn), (57, .aload 6), (59, .getfield 262), (62, .aload 7)],
  [(64, .getfield 262), (67, .if_icmp .eq 9), (70, .aload_n 0), (71, .iconst 4), (72, .invokevirtual 134), (75, .ireturn), (76, .aload 6), (78, .iload_n 2), (79, .iload 5)],
  [(81, .invokevirtual 265), (84, .ifCond .eq 15), (87, .aload 7), (89, .iload 4), (91, .iload 5), (93, .invokevirtual 265)],
  [(96, .ifCond .ne 9), (99, .aload_n 0), (100, .iconst 2), (101, .invokevirtual 134), (104, .ireturn), (105, .aload 6), (107, .getfield 139), (110, .iload_n 2), (111, .aload 7)],
  [(113, .getfield 139), (116, .iload 4), (118, .iload 5), (120, .invokestatic 268), (123, .iconst 1), (124, .ireturn)]])
theorem mok_N_copy : MOK me_N_copy 5 := ⟨List.mem_of_getElem? (i := 661) (by decide +kernel), List.mem_of_getElem? (i := 1) (by decide +kernel), by decide +kernel, by decide +kernel, rfl⟩
def me_N_write : MI := (⟨"BoatNames", "write", "(II)I"⟩, prog_1_method_36_code, 6, (some .int), 6, [
  [(0, .aload_n 0), (1, .iload_n 1), (2, .invokevirtual 107), (5, .ifCond .eq 11), (8, .iload_n 2), (9, .iconst 4), (10, .invokestatic 73), (13, .ifCond .ne 6)],
  [(16, .bipush (-2)), (18, .ireturn), (19, .aload_n 0), (20, .getfield 56), (23, .iload_n 2), (24, .aaload), (25, .astore_n 3), (26, .aload_n 3), (27, .getfield 130), (30, .ifCond .eq 9)],
  [(33, .aload_n 0), (34, .iconst 1), (35, .invokevirtual 134), (38, .ireturn), (39, .aload_n 3), (40, .getfield 138), (43, .bipush 24), (45, .invokestatic 274)],
  [(48, .istore 4), (50, .aload_n 0), (51, .getfield 36), (54, .aload_n 0), (55, .getfield 24), (58, .invokevirtual 279), (61, .iconst 0), (62, .istore 5)],
  [(64, .iload 5), (66, .iload 4), (68, .if_icmp .ge 33), (71, .aload_n 0), (72, .getfield 36), (75, .iload 5), (77, .invokevirtual 282)],
  [(80, .aload_n 3), (81, .iload 5), (83, .aload_n 0), (84, .getfield 36), (87, .getfield 157), (90, .iload_n 1), (91, .iaload), (92, .invokevirtual 258), (95, .iinc 5 1)],
  [(98, .goto (-34)), (101, .iload 4), (103, .ireturn)]])
theorem mok_N_write : MOK me_N_write 2 := ⟨List.mem_of_getElem? (i := 670) (by decide +kernel), List.mem_of_getElem? (i := 1) (by decide +kernel), by decide +kernel, by decide +kernel, rfl⟩
def me_N_count : MI := (⟨"BoatNames", "count", "(I)I"⟩, prog_1_method_37_code, 2, (some .int), 6, [
  [(0, .iload_n 1), (1, .tableswitch 147 0 8 #[51, 59, 67, 75, 83, 91, 113, 134, 142])],
  [],
  [],
  [(52, .aload_n 0), (53, .getfield 24), (56, .getfield 285), (59, .ireturn), (60, .aload_n 0), (61, .getfield 24)],
  [(64, .getfield 288), (67, .ireturn), (68, .aload_n 0), (69, .getfield 14), (72, .getfield 91), (75, .ireturn), (76, .aload_n 0), (77, .getfield 18)],
  [(80, .getfield 91), (83, .ireturn), (84, .aload_n 0), (85, .getfield 24), (88, .getfield 123), (91, .ireturn), (92, .aload_n 0), (93, .getfield 36)],
  [(96, .aload_n 0), (97, .getfield 24), (100, .bipush 23), (102, .invokevirtual 146), (105, .aload_n 0), (106, .getfield 36), (109, .iconst 2), (110, .invokevirtual 161)],
  [(113, .ireturn), (114, .aload_n 0), (115, .getfield 36), (118, .aload_n 0), (119, .getfield 24), (122, .bipush 23), (124, .invokevirtual 146), (127, .aload_n 0)],
  [(128, .getfield 36), (131, .invokevirtual 291), (134, .ireturn), (135, .aload_n 0), (136, .getfield 43), (139, .getfield 217), (142, .ireturn), (143, .aload_n 0)],
  [(144, .getfield 69), (147, .ireturn), (148, .bipush (-2)), (150, .ireturn)]])
theorem mok_N_count : MOK me_N_count 1 := ⟨List.mem_of_getElem? (i := 679) (by decide +kernel), List.mem_of_getElem? (i := 1) (by decide +kernel), by decide +kernel, by decide +kernel, rfl⟩
def me_N_digest : MI := (⟨"BoatNames", "digest", "()J"⟩, prog_1_method_38_code, 4, (some .long), 6, [
  [(0, .ldc2_w 294), (3, .lstore_n 1), (4, .iconst 0), (5, .istore_n 3), (6, .iload_n 3), (7, .bipush 8), (9, .if_icmp .ge 22), (12, .ldc2_w 296), (15, .lload_n 1)],
  [(16, .lmul), (17, .aload_n 0), (18, .iload_n 3), (19, .invokevirtual 298), (22, .i2l), (23, .ladd), (24, .lstore_n 1), (25, .iinc 3 1), (28, .goto (-22)), (31, .ldc2_w 296)],
  [(34, .lload_n 1), (35, .lmul), (36, .aload_n 0), (37, .iconst 0), (38, .invokevirtual 301), (41, .i2l), (42, .ladd), (43, .lstore_n 1), (44, .ldc2_w 296), (47, .lload_n 1)],
  [(48, .lmul), (49, .aload_n 0), (50, .iconst 1), (51, .invokevirtual 301), (54, .i2l), (55, .ladd), (56, .lstore_n 1), (57, .aload_n 0), (58, .iconst 5), (59, .invokevirtual 239), (62, .iconst 0), (63, .istore_n 3)],
  [(64, .iload_n 3), (65, .aload_n 0), (66, .getfield 24), (69, .getfield 288), (72, .if_icmp .ge 16), (75, .aload_n 0), (76, .lload_n 1), (77, .iload_n 3), (78, .invokevirtual 303)],
  [(81, .lstore_n 1), (82, .iinc 3 1), (85, .goto (-21)), (88, .iconst 0), (89, .istore_n 3), (90, .iload_n 3), (91, .bipush 8), (93, .if_icmp .ge 16)],
  [(96, .aload_n 0), (97, .lload_n 1), (98, .iload_n 3), (99, .invokevirtual 307), (102, .lstore_n 1), (103, .iinc 3 1), (106, .goto (-16)), (109, .iconst 0), (110, .istore_n 3), (111, .iload_n 3)],
  [(112, .bipush 24), (114, .if_icmp .ge 22), (117, .ldc2_w 296), (120, .lload_n 1), (121, .lmul), (122, .aload_n 0), (123, .iload_n 3), (124, .invokevirtual 310), (127, .i2l)],
  [(128, .ladd), (129, .lstore_n 1), (130, .iinc 3 1), (133, .goto (-22)), (136, .ldc2_w 296), (139, .lload_n 1), (140, .lmul), (141, .aload_n 0), (142, .iconst 0), (143, .invokevirtual 313)],
  [(146, .i2l), (147, .ladd), (148, .lstore_n 1), (149, .ldc2_w 296), (152, .lload_n 1), (153, .lmul), (154, .aload_n 0), (155, .iconst 1), (156, .invokevirtual 313), (159, .i2l)],
  [(160, .ladd), (161, .lstore_n 1), (162, .ldc2_w 296), (165, .lload_n 1), (166, .lmul), (167, .aload_n 0), (168, .invokevirtual 316), (171, .i2l), (172, .ladd), (173, .lstore_n 1), (174, .ldc2_w 296)],
  [(177, .lload_n 1), (178, .lmul), (179, .aload_n 0), (180, .invokevirtual 319), (183, .i2l), (184, .ladd), (185, .lstore_n 1), (186, .ldc2_w 296), (189, .lload_n 1), (190, .lmul), (191, .aload_n 0)],
  [(192, .iconst (-1)), (193, .invokevirtual 322), (196, .i2l), (197, .ladd), (198, .lstore_n 1), (199, .ldc2_w 296), (202, .lload_n 1), (203, .lmul), (204, .aload_n 0), (205, .iconst 0), (206, .invokevirtual 322)],
  [(209, .i2l), (210, .ladd), (211, .lstore_n 1), (212, .ldc2_w 296), (215, .lload_n 1), (216, .lmul), (217, .aload_n 0), (218, .invokevirtual 325), (221, .i2l), (222, .ladd), (223, .lstore_n 1)],
  [(224, .ldc2_w 296), (227, .lload_n 1), (228, .lmul), (229, .aload_n 0), (230, .bipush 7), (232, .bipush 6), (234, .iconst 0), (235, .invokevirtual 328), (238, .i2l), (239, .ladd)],
  [(240, .lstore_n 1), (241, .ldc2_w 296), (244, .lload_n 1), (245, .lmul), (246, .aload_n 0), (247, .bipush 7), (249, .bipush 6), (251, .iconst 1), (252, .invokevirtual 328), (255, .i2l)],
  [(256, .ladd), (257, .lreturn)]])
theorem mok_N_digest : MOK me_N_digest 0 := ⟨List.mem_of_getElem? (i := 688) (by decide +kernel), List.mem_of_getElem? (i := 1) (by decide +kernel), by decide +kernel, by decide +kernel, rfl⟩
def me_N_digestBoat : MI := (⟨"BoatNames", "digestBoat", "(JI)J"⟩, prog_1_method_39_code, 7, (some .long), 6, [
  [(0, .lload_n 1), (1, .lstore 4), (3, .iconst 0), (4, .istore 6), (6, .iload 6), (8, .iconst 4), (9, .if_icmp .ge 26), (12, .ldc2_w 296), (15, .lload 4)],
  [(17, .lmul), (18, .aload_n 0), (19, .iload_n 3), (20, .iload 6), (22, .invokevirtual 331), (25, .i2l), (26, .ladd), (27, .lstore 4), (29, .iinc 6 1)],
  [(32, .goto (-26)), (35, .aload_n 0), (36, .lload 4), (38, .iload_n 3), (39, .iconst 0), (40, .invokevirtual 334), (43, .lstore 4), (45, .aload_n 0), (46, .lload 4)],
  [(48, .iload_n 3), (49, .bipush 7), (51, .invokevirtual 334), (54, .lstore 4), (56, .aload_n 0), (57, .lload 4), (59, .iload_n 3), (60, .bipush 15), (62, .invokevirtual 334)],
  [(65, .lstore 4), (67, .aload_n 0), (68, .lload 4), (70, .iload_n 3), (71, .bipush 23), (73, .invokevirtual 334), (76, .lstore 4), (78, .ldc2_w 296)],
  [(81, .lload 4), (83, .lmul), (84, .aload_n 0), (85, .iload_n 3), (86, .invokevirtual 338), (89, .i2l), (90, .ladd), (91, .lstore 4), (93, .aload_n 0), (94, .iload_n 3), (95, .invokevirtual 193)],
  [(98, .ldc2_w 296), (101, .lload 4), (103, .lmul), (104, .aload_n 0), (105, .getfield 50), (108, .getfield 187), (111, .i2l)],
  [(112, .ladd), (113, .lstore 4), (115, .ldc2_w 296), (118, .lload 4), (120, .lmul), (121, .aload_n 0), (122, .getfield 50), (125, .getfield 196)],
  [(128, .i2l), (129, .ladd), (130, .lstore 4), (132, .aload_n 0), (133, .iload_n 3), (134, .invokevirtual 199), (137, .ldc2_w 296), (140, .lload 4), (142, .lmul), (143, .aload_n 0)],
  [(144, .getfield 50), (147, .getfield 187), (150, .i2l), (151, .ladd), (152, .lstore 4), (154, .ldc2_w 296), (157, .lload 4), (159, .lmul)],
  [(160, .aload_n 0), (161, .getfield 50), (164, .getfield 196), (167, .i2l), (168, .ladd), (169, .lstore 4), (171, .aload_n 0), (172, .iload_n 3), (173, .invokevirtual 202)],
  [(176, .ldc2_w 296), (179, .lload 4), (181, .lmul), (182, .aload_n 0), (183, .getfield 50), (186, .getfield 187), (189, .i2l), (190, .ladd), (191, .lstore 4)],
  [(193, .ldc2_w 296), (196, .lload 4), (198, .lmul), (199, .aload_n 0), (200, .getfield 50), (203, .getfield 196), (206, .i2l), (207, .lsub)],
  [(208, .lstore 4), (210, .ldc2_w 296), (213, .lload 4), (215, .lmul), (216, .aload_n 0), (217, .iload_n 3), (218, .invokevirtual 341), (221, .i2l), (222, .ladd), (223, .lstore 4)],
  [(225, .ldc2_w 296), (228, .lload 4), (230, .lmul), (231, .aload_n 0), (232, .iload_n 3), (233, .invokevirtual 242), (236, .ladd), (237, .lstore 4), (239, .ldc2_w 296)],
  [(242, .lload 4), (244, .lmul), (245, .aload_n 0), (246, .iload_n 3), (247, .invokevirtual 246), (250, .ladd), (251, .lreturn)]])
theorem mok_N_digestBoat : MOK me_N_digestBoat 2 := ⟨List.mem_of_getElem? (i := 696) (by decide +kernel), List.mem_of_getElem? (i := 1) (by decide +kernel), by decide +kernel, by decide +kernel, rfl⟩
def me_N_digestWeek : MI := (⟨"BoatNames", "digestWeek", "(JII)J"⟩, prog_1_method_40_code, 8, (some .long), 6, [
  [(0, .lload_n 1), (1, .lstore 5), (3, .iconst 0), (4, .istore 7), (6, .iload 7), (8, .iconst 4), (9, .if_icmp .ge 28), (12, .ldc2_w 296), (15, .lload 5)],
  [(17, .lmul), (18, .aload_n 0), (19, .iload 4), (21, .iload_n 3), (22, .iload 7), (24, .invokevirtual 344), (27, .i2l), (28, .ladd), (29, .lstore 5), (31, .iinc 7 1)],
  [(34, .goto (-28)), (37, .lload 5), (39, .lreturn)]])
theorem mok_N_digestWeek : MOK me_N_digestWeek 3 := ⟨List.mem_of_getElem? (i := 701) (by decide +kernel), List.mem_of_getElem? (i := 1) (by decide +kernel), by decide +kernel, by decide +kernel, rfl⟩
def me_N_digestPerson : MI := (⟨"BoatNames", "digestPerson", "(JI)J"⟩, prog_1_method_41_code, 8, (some .long), 6, [
  [(0, .iload_n 3), (1, .iconst 1), (2, .iadd), (3, .bipush 8), (5, .irem), (6, .istore 4), (8, .ldc2_w 296), (11, .lload_n 1), (12, .lmul), (13, .aload_n 0), (14, .iload_n 3), (15, .iconst 0)],
  [(16, .invokevirtual 347), (19, .i2l), (20, .ladd), (21, .lstore 5), (23, .ldc2_w 296), (26, .lload 5), (28, .lmul), (29, .aload_n 0), (30, .iload_n 3), (31, .iconst 1)],
  [(32, .invokevirtual 347), (35, .i2l), (36, .ladd), (37, .lstore 5), (39, .ldc2_w 296), (42, .lload 5), (44, .lmul), (45, .aload_n 0), (46, .bipush 23)],
  [(48, .iload_n 3), (49, .iload 4), (51, .invokevirtual 350), (54, .i2l), (55, .ladd), (56, .lstore 5), (58, .aload_n 0), (59, .iload_n 3), (60, .iload 4), (62, .invokevirtual 229)],
  [(65, .istore 7), (67, .ldc2_w 296), (70, .lload 5), (72, .lmul), (73, .iload 7), (75, .i2l), (76, .ladd), (77, .lstore 5), (79, .ldc2_w 296)],
  [(82, .lload 5), (84, .lmul), (85, .aload_n 0), (86, .iload 7), (88, .invokevirtual 232), (91, .i2l), (92, .ladd), (93, .lreturn)]])
theorem mok_N_digestPerson : MOK me_N_digestPerson 2 := ⟨List.mem_of_getElem? (i := 708) (by decide +kernel), List.mem_of_getElem? (i := 1) (by decide +kernel), by decide +kernel, by decide +kernel, rfl⟩
def me_N_isBelow : MI := (⟨"BoatNames", "isBelow", "(II)Z"⟩, prog_1_method_42_code, 2, (some .boolean), 6, [
  [(0, .iload_n 0), (1, .ifCond .lt 12), (4, .iload_n 0), (5, .iload_n 1), (6, .if_icmp .ge 7), (9, .iconst 1), (10, .goto 4), (13, .iconst 0), (14, .ireturn)]])
theorem mok_N_isBelow : MOK me_N_isBelow 2 := ⟨List.mem_of_getElem? (i := 257) (by decide +kernel), List.mem_of_getElem? (i := 1) (by decide +kernel), by decide +kernel, by decide +kernel, rfl⟩
def me_N_areTwo : MI := (⟨"BoatNames", "areTwo", "(II)Z"⟩, prog_1_method_43_code, 2, (some .boolean), 6, [
  [(0, .iload_n 0), (1, .bipush 8), (3, .invokestatic 73), (6, .ifCond .eq 21), (9, .iload_n 1), (10, .bipush 8), (12, .invokestatic 73), (15, .ifCond .eq 12)],
  [(18, .iload_n 0), (19, .iload_n 1), (20, .if_icmp .eq 7), (23, .iconst 1), (24, .goto 4), (27, .iconst 0), (28, .ireturn)]])
theorem mok_N_areTwo : MOK me_N_areTwo 2 := ⟨List.mem_of_getElem? (i := 338) (by decide +kernel), List.mem_of_getElem? (i := 1) (by decide +kernel), by decide +kernel, by decide +kernel, rfl⟩
def me_N_pair : MI := (⟨"BoatNames", "pair", "(II)I"⟩, prog_1_method_44_code, 2, (some .int), 6, [
  [(0, .iload_n 0), (1, .bipush 8), (3, .imul), (4, .iload_n 1), (5, .iadd), (6, .ireturn)]])
theorem mok_N_pair : MOK me_N_pair 2 := ⟨List.mem_of_getElem? (i := 303) (by decide +kernel), List.mem_of_getElem? (i := 1) (by decide +kernel), by decide +kernel, by decide +kernel, rfl⟩
def me_N_isBoat : MI := (⟨"BoatNames", "isBoat", "(I)Z"⟩, prog_1_method_45_code, 2, (some .boolean), 6, [
  [(0, .iload_n 1), (1, .aload_n 0), (2, .getfield 24), (5, .getfield 288), (8, .invokestatic 73), (11, .ireturn)]])
theorem mok_N_isBoat : MOK me_N_isBoat 1 := ⟨List.mem_of_getElem? (i := 347) (by decide +kernel), List.mem_of_getElem? (i := 1) (by decide +kernel), by decide +kernel, by decide +kernel, rfl⟩
def me_N_textOf : MI := (⟨"BoatNames", "textOf", "(I)LBoatNames$Text;"⟩, prog_1_method_46_code, 2, (some (.object "BoatNames$Text")), 6, [
  [(0, .iload_n 1), (1, .ifCond .ne 10), (4, .aload_n 0), (5, .getfield 14), (8, .goto 7), (11, .aload_n 0), (12, .getfield 18), (15, .areturn)]])
theorem mok_N_textOf : MOK me_N_textOf 1 := ⟨List.mem_of_getElem? (i := 261) (by decide +kernel), List.mem_of_getElem? (i := 1) (by decide +kernel), by decide +kernel, by decide +kernel, rfl⟩
def me_N_hear : MI := (⟨"BoatNames", "hear", "(I)V"⟩, prog_1_method_47_code, 2, none, 6, [
  [(0, .iload_n 1), (1, .ifCond .ne 17), (4, .aload_n 0), (5, .getfield 24), (8, .aload_n 0), (9, .getfield 14), (12, .invokevirtual 352), (15, .goto 14)],
  [(18, .aload_n 0), (19, .getfield 24), (22, .aload_n 0), (23, .getfield 18), (26, .invokevirtual 356), (29, .return_)]])
theorem mok_N_hear : MOK me_N_hear 1 := ⟨List.mem_of_getElem? (i := 273) (by decide +kernel), List.mem_of_getElem? (i := 1) (by decide +kernel), by decide +kernel, by decide +kernel, rfl⟩
def me_N_find : MI := (⟨"BoatNames", "find", "(I)I"⟩, prog_1_method_48_code, 2, (some .int), 6, [
  [(0, .aload_n 0), (1, .iload_n 1), (2, .putfield 69), (5, .bipush (-10)), (7, .iload_n 1), (8, .isub), (9, .ireturn)]])
theorem mok_N_find : MOK me_N_find 1 := ⟨List.mem_of_getElem? (i := 367) (by decide +kernel), List.mem_of_getElem? (i := 1) (by decide +kernel), by decide +kernel, by decide +kernel, rfl⟩
def me_N_seekWrong : MI := (⟨"BoatNames", "seekWrong", "(I)V"⟩, prog_1_method_49_code, 4, none, 6, [
  [(0, .aload_n 0), (1, .getfield 24), (4, .getfield 114), (7, .iload_n 1), (8, .iaload), (9, .istore_n 2), (10, .aload_n 0), (11, .getfield 50), (14, .invokevirtual 177)],
  [(17, .iconst 0), (18, .istore_n 3), (19, .iload_n 3), (20, .bipush 8), (22, .if_icmp .ge 69), (25, .iload_n 3), (26, .iload_n 2), (27, .if_icmp .eq 58), (30, .aload_n 0), (31, .getfield 28)],
  [(34, .aload_n 0), (35, .getfield 24), (38, .invokevirtual 220), (41, .aload_n 0), (42, .getfield 28), (45, .getfield 100)],
  [(48, .iload_n 3), (49, .iload_n 2), (50, .invokestatic 103), (53, .iconst 5), (54, .iastore), (55, .aload_n 0), (56, .getfield 36), (59, .aload_n 0), (60, .getfield 28), (63, .bipush 23)],
  [(65, .invokevirtual 146), (68, .aload_n 0), (69, .getfield 50), (72, .iload_n 3), (73, .aload_n 0), (74, .getfield 36), (77, .getfield 190)],
  [(80, .iload_n 1), (81, .iaload), (82, .invokevirtual 183), (85, .iinc 3 1), (88, .goto (-69)), (91, .return_)]])
theorem mok_N_seekWrong : MOK me_N_seekWrong 1 := ⟨List.mem_of_getElem? (i := 477) (by decide +kernel), List.mem_of_getElem? (i := 1) (by decide +kernel), by decide +kernel, by decide +kernel, rfl⟩
def me_N_seekPay : MI := (⟨"BoatNames", "seekPay", "(I)V"⟩, prog_1_method_50_code, 3, none, 6, [
  [(0, .aload_n 0), (1, .getfield 50), (4, .invokevirtual 177), (7, .iconst 0), (8, .istore_n 2), (9, .iload_n 2), (10, .bipush 24), (12, .if_icmp .ge 60), (15, .aload_n 0)],
  [(16, .getfield 28), (19, .aload_n 0), (20, .getfield 24), (23, .invokevirtual 220), (26, .aload_n 0), (27, .getfield 28), (30, .iconst 1), (31, .iload_n 2)],
  [(32, .iload_n 1), (33, .invokevirtual 126), (36, .aload_n 0), (37, .getfield 36), (40, .aload_n 0), (41, .getfield 28), (44, .bipush 23), (46, .invokevirtual 146)],
  [(49, .aload_n 0), (50, .getfield 50), (53, .iload_n 2), (54, .aload_n 0), (55, .getfield 36), (58, .getfield 190), (61, .iload_n 1), (62, .iaload), (63, .invokevirtual 183)],
  [(66, .iinc 2 1), (69, .goto (-60)), (72, .return_)]])
theorem mok_N_seekPay : MOK me_N_seekPay 1 := ⟨List.mem_of_getElem? (i := 490) (by decide +kernel), List.mem_of_getElem? (i := 1) (by decide +kernel), by decide +kernel, by decide +kernel, rfl⟩
def me_N_seekWait : MI := (⟨"BoatNames", "seekWait", "(I)V"⟩, prog_1_method_51_code, 3, none, 6, [
  [(0, .aload_n 0), (1, .getfield 28), (4, .aload_n 0), (5, .getfield 24), (8, .invokevirtual 220), (11, .aload_n 0), (12, .getfield 50), (15, .invokevirtual 177)],
  [(18, .iconst 0), (19, .istore_n 2), (20, .iload_n 2), (21, .bipush 24), (23, .if_icmp .ge 49), (26, .aload_n 0), (27, .getfield 28), (30, .getfield 117)],
  [(33, .iload_n 1), (34, .iload_n 2), (35, .iastore), (36, .aload_n 0), (37, .getfield 36), (40, .aload_n 0), (41, .getfield 28), (44, .bipush 23), (46, .invokevirtual 146)],
  [(49, .aload_n 0), (50, .getfield 50), (53, .iload_n 2), (54, .aload_n 0), (55, .getfield 36), (58, .iconst 2), (59, .invokevirtual 161), (62, .ineg), (63, .invokevirtual 183)],
  [(66, .iinc 2 1), (69, .goto (-49)), (72, .return_)]])
theorem mok_N_seekWait : MOK me_N_seekWait 1 := ⟨List.mem_of_getElem? (i := 498) (by decide +kernel), List.mem_of_getElem? (i := 1) (by decide +kernel), by decide +kernel, by decide +kernel, rfl⟩
def me_N_spareBits : MI := (⟨"BoatNames", "spareBits", "()I"⟩, prog_1_method_52_code, 3, (some .int), 6, [
  [(0, .aload_n 0), (1, .getfield 28), (4, .aload_n 0), (5, .getfield 24), (8, .invokevirtual 220), (11, .aload_n 0), (12, .iconst 0), (13, .invokevirtual 359)],
  [(16, .ifCond .eq 5), (19, .iconst 0), (20, .ireturn), (21, .iconst 0), (22, .istore_n 1), (23, .iload_n 1), (24, .aload_n 0), (25, .getfield 24), (28, .getfield 123), (31, .if_icmp .ge 23)],
  [(34, .aload_n 0), (35, .iconst 1), (36, .iload_n 1), (37, .ishl), (38, .invokevirtual 359), (41, .ifCond .eq 7), (44, .iconst 1), (45, .iload_n 1), (46, .ishl), (47, .ireturn)],
  [(48, .iinc 1 1), (51, .goto (-28)), (54, .iconst 0), (55, .istore_n 1), (56, .iload_n 1), (57, .aload_n 0), (58, .getfield 24), (61, .getfield 123)],
  [(64, .if_icmp .ge 52), (67, .iload_n 1), (68, .iconst 1), (69, .iadd), (70, .istore_n 2), (71, .iload_n 2), (72, .aload_n 0), (73, .getfield 24), (76, .getfield 123), (79, .if_icmp .ge 31)],
  [(82, .aload_n 0), (83, .iconst 1), (84, .iload_n 1), (85, .ishl), (86, .iconst 1), (87, .iload_n 2), (88, .ishl), (89, .ior), (90, .invokevirtual 359), (93, .ifCond .eq 11)],
  [(96, .iconst 1), (97, .iload_n 1), (98, .ishl), (99, .iconst 1), (100, .iload_n 2), (101, .ishl), (102, .ior), (103, .ireturn), (104, .iinc 2 1), (107, .goto (-36)), (110, .iinc 1 1)],
  [(113, .goto (-57)), (116, .iconst (-1)), (117, .ireturn)]])
theorem mok_N_spareBits : MOK me_N_spareBits 0 := ⟨List.mem_of_getElem? (i := 506) (by decide +kernel), List.mem_of_getElem? (i := 1) (by decide +kernel), by decide +kernel, by decide +kernel, rfl⟩
def me_N_isSafeWithout : MI := (⟨"BoatNames", "isSafeWithout", "(I)Z"⟩, prog_1_method_53_code, 2, (some .boolean), 6, [
  [(0, .aload_n 0), (1, .getfield 28), (4, .iload_n 1), (5, .putfield 223), (8, .aload_n 0), (9, .getfield 36), (12, .aload_n 0), (13, .getfield 28)],
  [(16, .bipush 23), (18, .invokevirtual 146), (21, .aload_n 0), (22, .getfield 36), (25, .getfield 168), (28, .iconst (-1)), (29, .if_icmp .ne 7)],
  [(32, .iconst 1), (33, .goto 4), (36, .iconst 0), (37, .ireturn)]])
theorem mok_N_isSafeWithout : MOK me_N_isSafeWithout 1 := ⟨List.mem_of_getElem? (i := 510) (by decide +kernel), List.mem_of_getElem? (i := 1) (by decide +kernel), by decide +kernel, by decide +kernel, rfl⟩
def me_N_placeOfBit : MI := (⟨"BoatNames", "placeOfBit", "(II)I"⟩, prog_1_method_54_code, 4, (some .int), 6, [
  [(0, .iconst 0), (1, .istore_n 2), (2, .iconst 0), (3, .istore_n 3), (4, .iload_n 3), (5, .bipush 8), (7, .if_icmp .ge 28), (10, .iload_n 0), (11, .iload_n 3), (12, .ishr), (13, .iconst 1), (14, .iand), (15, .iconst 1)],
  [(16, .if_icmp .ne 13), (19, .iload_n 2), (20, .iload_n 1), (21, .if_icmp .ne 5), (24, .iload_n 3), (25, .ireturn), (26, .iinc 2 1), (29, .iinc 3 1)],
  [(32, .goto (-28)), (35, .iconst (-1)), (36, .ireturn)]])
theorem mok_N_placeOfBit : MOK me_N_placeOfBit 2 := ⟨List.mem_of_getElem? (i := 519) (by decide +kernel), List.mem_of_getElem? (i := 1) (by decide +kernel), by decide +kernel, by decide +kernel, rfl⟩
def me_N_trialComesOutSo : MI := (⟨"BoatNames", "trialComesOutSo", "()Z"⟩, prog_1_method_55_code, 1, (some .boolean), 6, [
  [(0, .aload_n 0), (1, .getfield 36), (4, .aload_n 0), (5, .getfield 28), (8, .bipush 23), (10, .invokevirtual 146), (13, .aload_n 0), (14, .getfield 43)],
  [(17, .aload_n 0), (18, .getfield 36), (21, .invokevirtual 362), (24, .ireturn)]])
theorem mok_N_trialComesOutSo : MOK me_N_trialComesOutSo 0 := ⟨List.mem_of_getElem? (i := 539) (by decide +kernel), List.mem_of_getElem? (i := 1) (by decide +kernel), by decide +kernel, by decide +kernel, rfl⟩
def me_N_seekHated : MI := (⟨"BoatNames", "seekHated", "(II)I"⟩, prog_1_method_56_code, 5, (some .int), 6, [
  [(0, .aload_n 0), (1, .getfield 28), (4, .aload_n 0), (5, .getfield 24), (8, .invokevirtual 220), (11, .iconst 0), (12, .istore_n 3), (13, .iconst 0), (14, .istore 4)],
  [(16, .iload 4), (18, .bipush 9), (20, .if_icmp .gt 52), (23, .aload_n 0), (24, .getfield 28), (27, .getfield 100), (30, .iload_n 1), (31, .iload_n 2)],
  [(32, .invokestatic 103), (35, .iload 4), (37, .iastore), (38, .aload_n 0), (39, .invokevirtual 226), (42, .ifCond .eq 10), (45, .iload_n 3), (46, .iconst 1), (47, .iload 4)],
  [(49, .ishl), (50, .ior), (51, .istore_n 3), (52, .aload_n 0), (53, .getfield 65), (56, .iload 4), (58, .aload_n 0), (59, .getfield 36), (62, .invokevirtual 366)],
  [(65, .iastore), (66, .iinc 4 1), (69, .goto (-53)), (72, .iload_n 3), (73, .ireturn)]])
theorem mok_N_seekHated : MOK me_N_seekHated 2 := ⟨List.mem_of_getElem? (i := 559) (by decide +kernel), List.mem_of_getElem? (i := 1) (by decide +kernel), by decide +kernel, by decide +kernel, rfl⟩
def me_N_weekToAsk : MI := (⟨"BoatNames", "weekToAsk", "(I)I"⟩, prog_1_method_57_code, 3, (some .int), 6, [
  [(0, .aload_n 0), (1, .getfield 50), (4, .invokevirtual 177), (7, .iconst 0), (8, .istore_n 2), (9, .iload_n 2), (10, .bipush 24), (12, .if_icmp .ge 31), (15, .aload_n 0)],
  [(16, .getfield 50), (19, .iload_n 2), (20, .aload_n 0), (21, .iload_n 1), (22, .aload_n 0), (23, .getfield 24), (26, .iload_n 2), (27, .invokevirtual 369), (30, .invokevirtual 372)],
  [(33, .ineg), (34, .invokevirtual 183), (37, .iinc 2 1), (40, .goto (-31)), (43, .aload_n 0), (44, .getfield 50), (47, .getfield 187)],
  [(50, .ireturn)]])
theorem mok_N_weekToAsk : MOK me_N_weekToAsk 1 := ⟨List.mem_of_getElem? (i := 572) (by decide +kernel), List.mem_of_getElem? (i := 1) (by decide +kernel), by decide +kernel, by decide +kernel, rfl⟩
def me_N_greatestGroup : MI := (⟨"BoatNames", "greatestGroup", "(II)I"⟩, prog_1_method_58_code, 8, (some .int), 6, [
  [(0, .iconst 0), (1, .istore_n 3), (2, .iconst 0), (3, .istore 4), (5, .iload 4), (7, .bipush 9), (9, .if_icmp .gt 85), (12, .iconst 0), (13, .istore 5), (15, .iconst 0)],
  [(16, .istore 6), (18, .iload 6), (20, .bipush 9), (22, .if_icmp .gt 59), (25, .iload_n 1), (26, .iload 4), (28, .ishr), (29, .iload_n 1), (30, .iload 6)],
  [(32, .ishr), (33, .iand), (34, .iconst 1), (35, .iand), (36, .iconst 1), (37, .if_icmp .ne 7), (40, .iconst 1), (41, .goto 4), (44, .iconst 0), (45, .istore 7), (47, .iload 7)],
  [(49, .ifCond .eq 26), (52, .aload_n 0), (53, .getfield 65), (56, .iload 4), (58, .iaload), (59, .aload_n 0), (60, .getfield 65), (63, .iload 6)],
  [(65, .iaload), (66, .ixor), (67, .iload_n 2), (68, .iand), (69, .ifCond .ne 6), (72, .iinc 5 1), (75, .iinc 6 1), (78, .goto (-60))],
  [(81, .iload_n 3), (82, .iload 5), (84, .invokestatic 375), (87, .istore_n 3), (88, .iinc 4 1), (91, .goto (-86)), (94, .iload_n 3), (95, .ireturn)]])
theorem mok_N_greatestGroup : MOK me_N_greatestGroup 2 := ⟨List.mem_of_getElem? (i := 580) (by decide +kernel), List.mem_of_getElem? (i := 1) (by decide +kernel), by decide +kernel, by decide +kernel, rfl⟩
def me_N_weighSunk : MI := (⟨"BoatNames", "weighSunk", "(I)V"⟩, prog_1_method_59_code, 6, none, 6, [
  [(0, .aload_n 0), (1, .getfield 61), (4, .lconst 0), (5, .invokestatic 378), (8, .aload_n 0), (9, .getfield 28), (12, .aload_n 0), (13, .getfield 24)],
  [(16, .invokevirtual 220), (19, .iconst 1), (20, .aload_n 0), (21, .getfield 24), (24, .getfield 123), (27, .ishl), (28, .istore_n 2), (29, .iconst 0), (30, .istore_n 3), (31, .iload_n 3)],
  [(32, .iload_n 2), (33, .if_icmp .ge 53), (36, .aload_n 0), (37, .getfield 28), (40, .iload_n 3), (41, .putfield 223), (44, .aload_n 0), (45, .getfield 28)],
  [(48, .iload_n 1), (49, .invokevirtual 384), (52, .lstore 4), (54, .lload 4), (56, .lconst 0), (57, .lcmp), (58, .ifCond .le 22), (61, .aload_n 0), (62, .getfield 36)],
  [(65, .aload_n 0), (66, .getfield 28), (69, .bipush 23), (71, .invokevirtual 146), (74, .aload_n 0), (75, .lload 4), (77, .invokevirtual 387)],
  [(80, .iinc 3 1), (83, .goto (-52)), (86, .return_)]])
theorem mok_N_weighSunk : MOK me_N_weighSunk 1 := ⟨List.mem_of_getElem? (i := 590) (by decide +kernel), List.mem_of_getElem? (i := 1) (by decide +kernel), by decide +kernel, by decide +kernel, rfl⟩
def me_N_addWeight : MI := (⟨"BoatNames", "addWeight", "(J)V"⟩, prog_1_method_60_code, 4, none, 6, [
  [(0, .iconst 0), (1, .istore_n 3), (2, .iload_n 3), (3, .aload_n 0), (4, .getfield 24), (7, .getfield 288), (10, .if_icmp .ge 32), (13, .aload_n 0), (14, .getfield 36)],
  [(17, .getfield 151), (20, .iload_n 3), (21, .iaload), (22, .iconst 2), (23, .if_icmp .ne 13), (26, .aload_n 0), (27, .getfield 61), (30, .iload_n 3), (31, .dup2)],
  [(32, .laload), (33, .lload_n 1), (34, .ladd), (35, .lastore), (36, .iinc 3 1), (39, .goto (-37)), (42, .return_)]])
theorem mok_N_addWeight : MOK me_N_addWeight 1 := ⟨List.mem_of_getElem? (i := 601) (by decide +kernel), List.mem_of_getElem? (i := 1) (by decide +kernel), by decide +kernel, by decide +kernel, rfl⟩
def me_N_chanceAbove : MI := (⟨"BoatNames", "chanceAbove", "(I)J"⟩, prog_1_method_61_code, 2, (some .long), 6, [
  [(0, .aload_n 0), (1, .getfield 61), (4, .iload_n 1), (5, .laload), (6, .aload_n 0), (7, .iload_n 1), (8, .invokevirtual 391), (11, .lshr), (12, .lreturn)]])
theorem mok_N_chanceAbove : MOK me_N_chanceAbove 1 := ⟨List.mem_of_getElem? (i := 605) (by decide +kernel), List.mem_of_getElem? (i := 1) (by decide +kernel), by decide +kernel, by decide +kernel, rfl⟩
def me_N_chanceBelow : MI := (⟨"BoatNames", "chanceBelow", "(I)J"⟩, prog_1_method_62_code, 2, (some .long), 6, [
  [(0, .lconst 1), (1, .iconst 4), (2, .aload_n 0), (3, .getfield 24), (6, .getfield 123), (9, .imul), (10, .aload_n 0), (11, .iload_n 1), (12, .invokevirtual 391), (15, .isub)],
  [(16, .lshl), (17, .lreturn)]])
theorem mok_N_chanceBelow : MOK me_N_chanceBelow 1 := ⟨List.mem_of_getElem? (i := 613) (by decide +kernel), List.mem_of_getElem? (i := 1) (by decide +kernel), by decide +kernel, by decide +kernel, rfl⟩
def me_N_sharedHalvings : MI := (⟨"BoatNames", "sharedHalvings", "(I)I"⟩, prog_1_method_63_code, 4, (some .int), 6, [
  [(0, .iconst 4), (1, .aload_n 0), (2, .getfield 24), (5, .getfield 123), (8, .imul), (9, .istore_n 2), (10, .iconst 0), (11, .istore_n 3), (12, .iload_n 3), (13, .iload_n 2), (14, .if_icmp .ge 24)],
  [(17, .aload_n 0), (18, .getfield 61), (21, .iload_n 1), (22, .laload), (23, .iload_n 3), (24, .lshr), (25, .lconst 1), (26, .land), (27, .lconst 0), (28, .lcmp), (29, .ifCond .ne 9)],
  [(32, .iinc 3 1), (35, .goto (-23)), (38, .iload_n 3), (39, .ireturn)]])
theorem mok_N_sharedHalvings : MOK me_N_sharedHalvings 1 := ⟨List.mem_of_getElem? (i := 609) (by decide +kernel), List.mem_of_getElem? (i := 1) (by decide +kernel), by decide +kernel, by decide +kernel, rfl⟩

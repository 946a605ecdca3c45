def me_R_in : MI := (⟨"BoatNamesModel", "in", "(III)Z"⟩, prog_9_method_3_code, 3, (some .boolean), 7, [
  [(0, .iload_n 0), (1, .iload_n 1), (2, .if_icmp .lt 12), (5, .iload_n 0), (6, .iload_n 2), (7, .if_icmp .gt 7), (10, .iconst 1), (11, .goto 4), (14, .iconst 0), (15, .ireturn)]])
theorem mok_R_in : MOK me_R_in 3 := ⟨List.mem_of_getElem? (i := 864) (by decide +kernel), List.mem_of_getElem? (i := 8) (by decide +kernel), by decide +kernel, by decide +kernel, rfl⟩
def me_R_isIn : MI := (⟨"BoatNamesModel", "isIn", "(II)Z"⟩, prog_9_method_4_code, 2, (some .boolean), 7, [
  [(0, .iload_n 0), (1, .iload_n 1), (2, .ishr), (3, .iconst 1), (4, .iand), (5, .iconst 1), (6, .if_icmp .ne 7), (9, .iconst 1), (10, .goto 4), (13, .iconst 0), (14, .ireturn)]])
theorem mok_R_isIn : MOK me_R_isIn 2 := ⟨List.mem_of_getElem? (i := 976) (by decide +kernel), List.mem_of_getElem? (i := 8) (by decide +kernel), by decide +kernel, by decide +kernel, rfl⟩
def me_R_no : MI := (⟨"BoatNamesModel", "no", "(I)J"⟩, prog_9_method_5_code, 1, (some .long), 7, [
  [(0, .ldc2_w 113), (3, .iload_n 0), (4, .i2l), (5, .lsub), (6, .lreturn)]])
theorem mok_R_no : MOK me_R_no 1 := ⟨List.mem_of_getElem? (i := 1173) (by decide +kernel), List.mem_of_getElem? (i := 8) (by decide +kernel), by decide +kernel, by decide +kernel, rfl⟩
def me_R_lowest : MI := (⟨"BoatNamesModel", "lowest", "(JJI)J"⟩, prog_9_method_6_code, 11, (some .long), 7, [
  [(0, .lload_n 0), (1, .lstore 5), (3, .lload_n 2), (4, .lstore 7), (6, .lload 7), (8, .lconst 0), (9, .lcmp), (10, .ifCond .eq 21), (13, .lload 5), (15, .lload 7)],
  [(17, .lrem), (18, .lstore 9), (20, .lload 7), (22, .lstore 5), (24, .lload 9), (26, .lstore 7), (28, .goto (-22)), (31, .iload 4)],
  [(33, .ifCond .ne 10), (36, .lload_n 0), (37, .lload 5), (39, .ldiv), (40, .goto 7), (43, .lload_n 2), (44, .lload 5), (46, .ldiv), (47, .lreturn)]])
theorem mok_R_lowest : MOK me_R_lowest 3 := ⟨List.mem_of_getElem? (i := 1170) (by decide +kernel), List.mem_of_getElem? (i := 8) (by decide +kernel), by decide +kernel, by decide +kernel, rfl⟩
def me_R_isText : MI := (⟨"BoatNamesModel", "isText", "(I)Z"⟩, prog_9_method_7_code, 1, (some .boolean), 7, [
  [(0, .iload_n 0), (1, .iconst 0), (2, .iconst 1), (3, .invokestatic 115), (6, .ireturn)]])
theorem mok_R_isText : MOK me_R_isText 1 := ⟨List.mem_of_getElem? (i := 861) (by decide +kernel), List.mem_of_getElem? (i := 8) (by decide +kernel), by decide +kernel, by decide +kernel, rfl⟩
def me_R_isWeek : MI := (⟨"BoatNamesModel", "isWeek", "(I)Z"⟩, prog_9_method_8_code, 1, (some .boolean), 7, [
  [(0, .iload_n 0), (1, .iconst 0), (2, .bipush 23), (4, .invokestatic 115), (7, .ireturn)]])
theorem mok_R_isWeek : MOK me_R_isWeek 1 := ⟨List.mem_of_getElem? (i := 902) (by decide +kernel), List.mem_of_getElem? (i := 8) (by decide +kernel), by decide +kernel, by decide +kernel, rfl⟩
def me_R_isTwo : MI := (⟨"BoatNamesModel", "isTwo", "(I)Z"⟩, prog_9_method_9_code, 1, (some .boolean), 7, [
  [(0, .iload_n 0), (1, .iconst 0), (2, .iconst 1), (3, .invokestatic 115), (6, .ireturn)]])
theorem mok_R_isTwo : MOK me_R_isTwo 1 := ⟨List.mem_of_getElem? (i := 1027) (by decide +kernel), List.mem_of_getElem? (i := 8) (by decide +kernel), by decide +kernel, by decide +kernel, rfl⟩
def me_R_isEight : MI := (⟨"BoatNamesModel", "isEight", "(I)Z"⟩, prog_9_method_10_code, 1, (some .boolean), 7, [
  [(0, .iload_n 0), (1, .iconst 0), (2, .bipush 7), (4, .invokestatic 115), (7, .ireturn)]])
theorem mok_R_isEight : MOK me_R_isEight 1 := ⟨List.mem_of_getElem? (i := 895) (by decide +kernel), List.mem_of_getElem? (i := 8) (by decide +kernel), by decide +kernel, by decide +kernel, rfl⟩
def me_R_areTwo : MI := (⟨"BoatNamesModel", "areTwo", "(II)Z"⟩, prog_9_method_11_code, 2, (some .boolean), 7, [
  [(0, .iload_n 0), (1, .invokestatic 119), (4, .ifCond .eq 19), (7, .iload_n 1), (8, .invokestatic 119), (11, .ifCond .eq 12), (14, .iload_n 0), (15, .iload_n 1)],
  [(16, .if_icmp .eq 7), (19, .iconst 1), (20, .goto 4), (23, .iconst 0), (24, .ireturn)]])
theorem mok_R_areTwo : MOK me_R_areTwo 2 := ⟨List.mem_of_getElem? (i := 909) (by decide +kernel), List.mem_of_getElem? (i := 8) (by decide +kernel), by decide +kernel, by decide +kernel, rfl⟩
def me_R_type : MI := (⟨"BoatNamesModel", "type", "(II)I"⟩, prog_9_method_12_code, 3, (some .int), 7, [
  [(0, .iload_n 1), (1, .invokestatic 123), (4, .ifCond .eq 14), (7, .iload_n 2), (8, .iconst 0), (9, .sipush 255), (12, .invokestatic 115), (15, .ifCond .ne 6)],
  [(18, .bipush (-2)), (20, .ireturn), (21, .aload_n 0), (22, .getfield 7), (25, .iload_n 1), (26, .iaload), (27, .iload_n 1), (28, .ifCond .ne 8), (31, .bipush 47)],
  [(33, .goto 5), (36, .bipush 39), (38, .if_icmp .ne 6), (41, .bipush (-4)), (43, .ireturn), (44, .aload_n 0), (45, .getfield 13)],
  [(48, .bipush 47), (50, .iload_n 1), (51, .imul), (52, .aload_n 0), (53, .getfield 7), (56, .iload_n 1), (57, .iaload), (58, .iadd), (59, .iload_n 2), (60, .iastore), (61, .aload_n 0), (62, .getfield 7)],
  [(65, .iload_n 1), (66, .dup2), (67, .iaload), (68, .iconst 1), (69, .iadd), (70, .iastore), (71, .aload_n 0), (72, .getfield 7), (75, .iload_n 1), (76, .iaload), (77, .ireturn)]])
theorem mok_R_type : MOK me_R_type 2 := ⟨List.mem_of_getElem? (i := 858) (by decide +kernel), List.mem_of_getElem? (i := 8) (by decide +kernel), by decide +kernel, by decide +kernel, rfl⟩
def me_R_wipe : MI := (⟨"BoatNamesModel", "wipe", "(I)I"⟩, prog_9_method_13_code, 3, (some .int), 7, [
  [(0, .iload_n 1), (1, .invokestatic 123), (4, .ifCond .ne 6), (7, .bipush (-2)), (9, .ireturn), (10, .aload_n 0), (11, .getfield 7), (14, .iload_n 1), (15, .iaload)],
  [(16, .istore_n 2), (17, .aload_n 0), (18, .getfield 7), (21, .iload_n 1), (22, .iconst 0), (23, .iastore), (24, .iload_n 2), (25, .ireturn)]])
theorem mok_R_wipe : MOK me_R_wipe 1 := ⟨List.mem_of_getElem? (i := 868) (by decide +kernel), List.mem_of_getElem? (i := 8) (by decide +kernel), by decide +kernel, by decide +kernel, rfl⟩
def me_R_undo : MI := (⟨"BoatNamesModel", "undo", "(I)I"⟩, prog_9_method_14_code, 2, (some .int), 7, [
  [(0, .iload_n 1), (1, .invokestatic 123), (4, .ifCond .ne 6), (7, .bipush (-2)), (9, .ireturn), (10, .aload_n 0), (11, .getfield 7), (14, .iload_n 1), (15, .iaload)],
  [(16, .ifCond .ne 6), (19, .bipush (-3)), (21, .ireturn), (22, .aload_n 0), (23, .getfield 7), (26, .iload_n 1), (27, .dup2), (28, .iaload), (29, .iconst 1), (30, .isub), (31, .iastore)],
  [(32, .aload_n 0), (33, .getfield 7), (36, .iload_n 1), (37, .iaload), (38, .ireturn)]])
theorem mok_R_undo : MOK me_R_undo 1 := ⟨List.mem_of_getElem? (i := 872) (by decide +kernel), List.mem_of_getElem? (i := 8) (by decide +kernel), by decide +kernel, by decide +kernel, rfl⟩
def me_R_byteAt : MI := (⟨"BoatNamesModel", "byteAt", "(II)I"⟩, prog_9_method_15_code, 3, (some .int), 7, [
  [(0, .iload_n 2), (1, .aload_n 0), (2, .getfield 7), (5, .iload_n 1), (6, .iaload), (7, .if_icmp .ge 17), (10, .aload_n 0), (11, .getfield 13), (14, .bipush 47)],
  [(16, .iload_n 1), (17, .imul), (18, .iload_n 2), (19, .iadd), (20, .iaload), (21, .goto 4), (24, .iconst (-1)), (25, .ireturn)]])
theorem mok_R_byteAt : MOK me_R_byteAt 2 := ⟨List.mem_of_getElem? (i := 892) (by decide +kernel), List.mem_of_getElem? (i := 8) (by decide +kernel), by decide +kernel, by decide +kernel, rfl⟩
def me_R_readsHate : MI := (⟨"BoatNamesModel", "readsHate", "(II)I"⟩, prog_9_method_16_code, 6, (some .int), 7, [
  [(0, .aload_n 0), (1, .iconst 0), (2, .iload_n 2), (3, .invokevirtual 126), (6, .bipush 48), (8, .isub), (9, .istore_n 3), (10, .aload_n 0), (11, .iconst 0), (12, .iload_n 2), (13, .iconst 1), (14, .iadd), (15, .invokevirtual 126)],
  [(18, .bipush 48), (20, .isub), (21, .istore 4), (23, .aload_n 0), (24, .iconst 0), (25, .iload_n 2), (26, .iconst 2), (27, .iadd), (28, .invokevirtual 126), (31, .bipush 48)],
  [(33, .isub), (34, .istore 5), (36, .iload_n 1), (37, .bipush 12), (39, .if_icmp .eq 10), (42, .iload_n 3), (43, .invokestatic 119), (46, .ifCond .ne 5)],
  [(49, .iconst 0), (50, .ireturn), (51, .iload 4), (53, .invokestatic 119), (56, .ifCond .eq 9), (59, .iload 4), (61, .iload_n 3), (62, .if_icmp .ne 5)],
  [(65, .iconst 1), (66, .ireturn), (67, .iload 5), (69, .iconst 1), (70, .bipush 9), (72, .invokestatic 115), (75, .ifCond .ne 5), (78, .iconst 2), (79, .ireturn)],
  [(80, .aload_n 0), (81, .getfield 16), (84, .iconst 3), (85, .iload_n 1), (86, .imul), (87, .iload_n 3), (88, .iastore), (89, .aload_n 0), (90, .getfield 16), (93, .iconst 3), (94, .iload_n 1), (95, .imul)],
  [(96, .iconst 1), (97, .iadd), (98, .iload 4), (100, .iastore), (101, .aload_n 0), (102, .getfield 16), (105, .iconst 3), (106, .iload_n 1), (107, .imul), (108, .iconst 2), (109, .iadd), (110, .iload 5)],
  [(112, .iastore), (113, .iconst 3), (114, .ireturn)]])
theorem mok_R_readsHate : MOK me_R_readsHate 2 := ⟨List.mem_of_getElem? (i := 888) (by decide +kernel), List.mem_of_getElem? (i := 8) (by decide +kernel), by decide +kernel, by decide +kernel, rfl⟩
def me_R_readsBoat : MI := (⟨"BoatNamesModel", "readsBoat", "(II)I"⟩, prog_9_method_17_code, 8, (some .int), 7, [
  [(0, .aload_n 0), (1, .iconst 1), (2, .iload_n 2), (3, .invokevirtual 126), (6, .istore_n 3), (7, .iload_n 3), (8, .bipush 108), (10, .if_icmp .ne 7), (13, .iconst 0), (14, .goto 24)],
  [(17, .iload_n 3), (18, .bipush 115), (20, .if_icmp .ne 7), (23, .iconst 1), (24, .goto 14), (27, .iload_n 3), (28, .bipush 116), (30, .if_icmp .ne 7)],
  [(33, .iconst 2), (34, .goto 4), (37, .iconst (-1)), (38, .istore 4), (40, .aload_n 0), (41, .iconst 1), (42, .iload_n 2), (43, .iconst 1), (44, .iadd), (45, .invokevirtual 126)],
  [(48, .bipush 48), (50, .isub), (51, .istore 5), (53, .aload_n 0), (54, .iconst 1), (55, .iload_n 2), (56, .iconst 2), (57, .iadd), (58, .invokevirtual 126), (61, .bipush 97), (63, .isub)],
  [(64, .istore 6), (66, .aload_n 0), (67, .iconst 1), (68, .iload_n 2), (69, .iconst 3), (70, .iadd), (71, .invokevirtual 126), (74, .bipush 48), (76, .isub), (77, .istore 7), (79, .iload_n 1)],
  [(80, .bipush 8), (82, .if_icmp .eq 9), (85, .iload 4), (87, .iconst (-1)), (88, .if_icmp .ne 5), (91, .iconst 0), (92, .ireturn), (93, .iload 5), (95, .invokestatic 119)],
  [(98, .ifCond .ne 5), (101, .iconst 1), (102, .ireturn), (103, .iload 6), (105, .invokestatic 130), (108, .ifCond .ne 5), (111, .iconst 2)],
  [(112, .ireturn), (113, .iload 7), (115, .iconst 1), (116, .bipush 9), (118, .invokestatic 115), (121, .ifCond .ne 5), (124, .iconst 3), (125, .ireturn), (126, .aload_n 0), (127, .getfield 22)],
  [(130, .iload_n 1), (131, .iload 4), (133, .iastore), (134, .aload_n 0), (135, .getfield 25), (138, .iload_n 1), (139, .iload 5), (141, .iastore), (142, .aload_n 0), (143, .getfield 28)],
  [(146, .iload_n 1), (147, .iload 6), (149, .iastore), (150, .aload_n 0), (151, .getfield 31), (154, .iload_n 1), (155, .iload 7), (157, .iastore), (158, .iconst 4), (159, .ireturn)]])
theorem mok_R_readsBoat : MOK me_R_readsBoat 2 := ⟨List.mem_of_getElem? (i := 899) (by decide +kernel), List.mem_of_getElem? (i := 8) (by decide +kernel), by decide +kernel, by decide +kernel, rfl⟩
def me_R_readsParts : MI := (⟨"BoatNamesModel", "readsParts", "(I)I"⟩, prog_9_method_18_code, 6, (some .int), 7, [
  [(0, .iload_n 1), (1, .ifCond .ne 7), (4, .iconst 3), (5, .goto 4), (8, .iconst 4), (9, .istore_n 2), (10, .iconst 0), (11, .istore_n 3), (12, .iconst 0), (13, .istore 4), (15, .aload_n 0)],
  [(16, .iload_n 1), (17, .ifCond .ne 7), (20, .iconst 0), (21, .goto 7), (24, .aload_n 0), (25, .getfield 133), (28, .putfield 133), (31, .aload_n 0)],
  [(32, .iload_n 1), (33, .iconst 1), (34, .if_icmp .ne 7), (37, .iconst 0), (38, .goto 7), (41, .aload_n 0), (42, .getfield 137), (45, .putfield 137)],
  [(48, .iload 4), (50, .aload_n 0), (51, .getfield 7), (54, .iload_n 1), (55, .iaload), (56, .if_icmp .lt 8), (59, .iload 4), (61, .ifCond .le 114)],
  [(64, .iload_n 1), (65, .ifCond .ne 13), (68, .aload_n 0), (69, .iload_n 3), (70, .iload 4), (72, .invokevirtual 140), (75, .goto 10), (78, .aload_n 0), (79, .iload_n 3)],
  [(80, .iload 4), (82, .invokevirtual 143), (85, .istore 5), (87, .iload 5), (89, .iload_n 2), (90, .if_icmp .ge 9), (93, .iload 4), (95, .iload 5)],
  [(97, .iadd), (98, .ireturn), (99, .iinc 3 1), (102, .iload 4), (104, .iload_n 2), (105, .iadd), (106, .istore 4), (108, .iload 4), (110, .aload_n 0), (111, .getfield 7)],
  [(114, .iload_n 1), (115, .iaload), (116, .if_icmp .ne 38), (119, .aload_n 0), (120, .iload_n 1), (121, .ifCond .ne 7), (124, .iload_n 3), (125, .goto 7)],
  [(128, .aload_n 0), (129, .getfield 133), (132, .putfield 133), (135, .aload_n 0), (136, .iload_n 1), (137, .iconst 1), (138, .if_icmp .ne 7), (141, .iload_n 3), (142, .goto 7)],
  [(145, .aload_n 0), (146, .getfield 137), (149, .putfield 137), (152, .iconst (-1)), (153, .ireturn), (154, .aload_n 0), (155, .iload_n 1), (156, .iload 4), (158, .invokevirtual 126)],
  [(161, .bipush 59), (163, .if_icmp .eq 6), (166, .iload 4), (168, .ireturn), (169, .iinc 4 1), (172, .goto (-124)), (175, .iconst (-1))],
  [(176, .ireturn)]])
theorem mok_R_readsParts : MOK me_R_readsParts 1 := ⟨List.mem_of_getElem? (i := 884) (by decide +kernel), List.mem_of_getElem? (i := 8) (by decide +kernel), by decide +kernel, by decide +kernel, rfl⟩
def me_R_faultOf : MI := (⟨"BoatNamesModel", "faultOf", "(I)I"⟩, prog_9_method_19_code, 4, (some .int), 7, [
  [(0, .aload_n 0), (1, .iconst 0), (2, .invokevirtual 146), (5, .istore_n 2), (6, .aload_n 0), (7, .iconst 1), (8, .invokevirtual 146), (11, .istore_n 3), (12, .iload_n 1), (13, .ifCond .ne 7)],
  [(16, .iload_n 2), (17, .goto 4), (20, .iload_n 3), (21, .ireturn)]])
theorem mok_R_faultOf : MOK me_R_faultOf 1 := ⟨List.mem_of_getElem? (i := 880) (by decide +kernel), List.mem_of_getElem? (i := 8) (by decide +kernel), by decide +kernel, by decide +kernel, rfl⟩
def me_R_reads : MI := (⟨"BoatNamesModel", "reads", "()V"⟩, prog_9_method_20_code, 3, none, 7, [
  [(0, .aload_n 0), (1, .iconst 0), (2, .invokevirtual 150), (5, .istore_n 1), (6, .iconst 0), (7, .istore_n 2), (8, .iload_n 2), (9, .bipush 64), (11, .if_icmp .ge 16), (14, .aload_n 0), (15, .getfield 19)],
  [(18, .iload_n 2), (19, .iconst 0), (20, .iastore), (21, .iinc 2 1), (24, .goto (-16)), (27, .iconst 0), (28, .istore_n 2), (29, .iload_n 2), (30, .aload_n 0), (31, .getfield 133)],
  [(34, .if_icmp .ge 46), (37, .aload_n 0), (38, .getfield 19), (41, .bipush 8), (43, .aload_n 0), (44, .getfield 16), (47, .iconst 3)],
  [(48, .iload_n 2), (49, .imul), (50, .iaload), (51, .imul), (52, .aload_n 0), (53, .getfield 16), (56, .iconst 3), (57, .iload_n 2), (58, .imul), (59, .iconst 1), (60, .iadd), (61, .iaload), (62, .iadd), (63, .aload_n 0)],
  [(64, .getfield 16), (67, .iconst 3), (68, .iload_n 2), (69, .imul), (70, .iconst 2), (71, .iadd), (72, .iaload), (73, .iastore), (74, .iinc 2 1), (77, .goto (-48))],
  [(80, .return_)]])
theorem mok_R_reads : MOK me_R_reads 0 := ⟨List.mem_of_getElem? (i := 917) (by decide +kernel), List.mem_of_getElem? (i := 8) (by decide +kernel), by decide +kernel, by decide +kernel, rfl⟩
def me_R_fault : MI := (⟨"BoatNamesModel", "fault", "(I)I"⟩, prog_9_method_21_code, 2, (some .int), 7, [
  [(0, .iload_n 1), (1, .invokestatic 123), (4, .ifCond .eq 11), (7, .aload_n 0), (8, .iload_n 1), (9, .invokevirtual 150), (12, .goto 5), (15, .bipush (-2))],
  [(17, .ireturn)]])
theorem mok_R_fault : MOK me_R_fault 1 := ⟨List.mem_of_getElem? (i := 876) (by decide +kernel), List.mem_of_getElem? (i := 8) (by decide +kernel), by decide +kernel, by decide +kernel, rfl⟩
def me_R_isBoat : MI := (⟨"BoatNamesModel", "isBoat", "(I)Z"⟩, prog_9_method_22_code, 2, (some .boolean), 7, [
  [(0, .aload_n 0), (1, .invokevirtual 153), (4, .iload_n 1), (5, .iconst 0), (6, .aload_n 0), (7, .getfield 137), (10, .iconst 1), (11, .isub), (12, .invokestatic 115), (15, .ireturn)]])
theorem mok_R_isBoat : MOK me_R_isBoat 1 := ⟨List.mem_of_getElem? (i := 925) (by decide +kernel), List.mem_of_getElem? (i := 8) (by decide +kernel), by decide +kernel, by decide +kernel, rfl⟩
def me_R_toldOf : MI := (⟨"BoatNamesModel", "toldOf", "(II)I"⟩, prog_9_method_23_code, 3, (some .int), 7, [
  [(0, .aload_n 0), (1, .invokevirtual 153), (4, .aload_n 0), (5, .getfield 19), (8, .bipush 8), (10, .iload_n 1), (11, .imul), (12, .iload_n 2), (13, .iadd), (14, .iaload), (15, .ireturn)]])
theorem mok_R_toldOf : MOK me_R_toldOf 2 := ⟨List.mem_of_getElem? (i := 913) (by decide +kernel), List.mem_of_getElem? (i := 8) (by decide +kernel), by decide +kernel, by decide +kernel, rfl⟩
def me_R_told : MI := (⟨"BoatNamesModel", "told", "(II)I"⟩, prog_9_method_24_code, 3, (some .int), 7, [
  [(0, .iload_n 1), (1, .iload_n 2), (2, .invokestatic 156), (5, .ifCond .eq 12), (8, .aload_n 0), (9, .iload_n 1), (10, .iload_n 2), (11, .invokevirtual 160), (14, .goto 5)],
  [(17, .bipush (-2)), (19, .ireturn)]])
theorem mok_R_told : MOK me_R_told 2 := ⟨List.mem_of_getElem? (i := 906) (by decide +kernel), List.mem_of_getElem? (i := 8) (by decide +kernel), by decide +kernel, by decide +kernel, rfl⟩
def me_R_boatOf : MI := (⟨"BoatNamesModel", "boatOf", "(II)I"⟩, prog_9_method_25_code, 3, (some .int), 7, [
  [(0, .iload_n 2), (1, .ifCond .ne 12), (4, .aload_n 0), (5, .getfield 22), (8, .iload_n 1), (9, .iaload), (10, .goto 37), (13, .iload_n 2), (14, .iconst 1), (15, .if_icmp .ne 12)],
  [(18, .aload_n 0), (19, .getfield 25), (22, .iload_n 1), (23, .iaload), (24, .goto 23), (27, .iload_n 2), (28, .iconst 2), (29, .if_icmp .ne 12)],
  [(32, .aload_n 0), (33, .getfield 28), (36, .iload_n 1), (37, .iaload), (38, .goto 9), (41, .aload_n 0), (42, .getfield 31), (45, .iload_n 1), (46, .iaload), (47, .ireturn)]])
theorem mok_R_boatOf : MOK me_R_boatOf 2 := ⟨List.mem_of_getElem? (i := 929) (by decide +kernel), List.mem_of_getElem? (i := 8) (by decide +kernel), by decide +kernel, by decide +kernel, rfl⟩
def me_R_boat : MI := (⟨"BoatNamesModel", "boat", "(II)I"⟩, prog_9_method_26_code, 3, (some .int), 7, [
  [(0, .aload_n 0), (1, .iload_n 1), (2, .invokevirtual 163), (5, .ifCond .eq 21), (8, .iload_n 2), (9, .iconst 0), (10, .iconst 3), (11, .invokestatic 115), (14, .ifCond .eq 12)],
  [(17, .aload_n 0), (18, .iload_n 1), (19, .iload_n 2), (20, .invokevirtual 166), (23, .goto 5), (26, .bipush (-2)), (28, .ireturn)]])
theorem mok_R_boat : MOK me_R_boat 2 := ⟨List.mem_of_getElem? (i := 921) (by decide +kernel), List.mem_of_getElem? (i := 8) (by decide +kernel), by decide +kernel, by decide +kernel, rfl⟩
def me_R_event : MI := (⟨"BoatNamesModel", "event", "(III)I"⟩, prog_9_method_27_code, 4, (some .int), 7, [
  [(0, .iload_n 1), (1, .iconst 0), (2, .iconst 2), (3, .invokestatic 115), (6, .ifCond .eq 17), (9, .iload_n 2), (10, .invokestatic 130), (13, .ifCond .eq 10)],
  [(16, .iload_n 3), (17, .invokestatic 119), (20, .ifCond .ne 6), (23, .bipush (-2)), (25, .ireturn), (26, .aload_n 0), (27, .getfield 169), (30, .bipush 8)],
  [(32, .if_icmp .ne 6), (35, .bipush (-4)), (37, .ireturn), (38, .aload_n 0), (39, .getfield 34), (42, .aload_n 0), (43, .getfield 169), (46, .iload_n 1), (47, .iastore)],
  [(48, .aload_n 0), (49, .getfield 37), (52, .aload_n 0), (53, .getfield 169), (56, .iload_n 2), (57, .iastore), (58, .aload_n 0), (59, .getfield 40), (62, .aload_n 0), (63, .getfield 169)],
  [(66, .iload_n 3), (67, .iastore), (68, .aload_n 0), (69, .dup), (70, .getfield 169), (73, .iconst 1), (74, .iadd), (75, .putfield 169), (78, .aload_n 0), (79, .getfield 169)],
  [(82, .ireturn)]])
theorem mok_R_event : MOK me_R_event 3 := ⟨List.mem_of_getElem? (i := 933) (by decide +kernel), List.mem_of_getElem? (i := 8) (by decide +kernel), by decide +kernel, by decide +kernel, rfl⟩
def me_R_back : MI := (⟨"BoatNamesModel", "back", "()I"⟩, prog_9_method_28_code, 1, (some .int), 7, [
  [(0, .aload_n 0), (1, .getfield 169), (4, .ifCond .ne 6), (7, .bipush (-3)), (9, .ireturn), (10, .aload_n 0), (11, .dup), (12, .getfield 169), (15, .iconst 1)],
  [(16, .isub), (17, .putfield 169), (20, .aload_n 0), (21, .getfield 169), (24, .ireturn)]])
theorem mok_R_back : MOK me_R_back 0 := ⟨List.mem_of_getElem? (i := 937) (by decide +kernel), List.mem_of_getElem? (i := 8) (by decide +kernel), by decide +kernel, by decide +kernel, rfl⟩
def me_R_read : MI := (⟨"BoatNamesModel", "read", "(I)I"⟩, prog_9_method_29_code, 4, (some .int), 7, [
  [(0, .iload_n 1), (1, .invokestatic 172), (4, .ifCond .ne 6), (7, .bipush (-2)), (9, .ireturn), (10, .aload_n 0), (11, .getfield 97), (14, .iload_n 1), (15, .baload)],
  [(16, .ifCond .ne 9), (19, .aload_n 0), (20, .iconst 1), (21, .invokevirtual 175), (24, .ireturn), (25, .iconst 0), (26, .istore_n 2), (27, .bipush 60), (29, .iload_n 1), (30, .imul), (31, .istore_n 3)],
  [(32, .iconst 3), (33, .iload_n 2), (34, .imul), (35, .iconst 2), (36, .iadd), (37, .aload_n 0), (38, .getfield 104), (41, .iload_n 1), (42, .iaload), (43, .if_icmp .ge 50), (46, .aload_n 0), (47, .aload_n 0)],
  [(48, .getfield 107), (51, .iload_n 3), (52, .iconst 3), (53, .iload_n 2), (54, .imul), (55, .iadd), (56, .iaload), (57, .aload_n 0), (58, .getfield 107), (61, .iload_n 3), (62, .iconst 3), (63, .iload_n 2)],
  [(64, .imul), (65, .iadd), (66, .iconst 1), (67, .iadd), (68, .iaload), (69, .aload_n 0), (70, .getfield 107), (73, .iload_n 3), (74, .iconst 3), (75, .iload_n 2), (76, .imul), (77, .iadd), (78, .iconst 2), (79, .iadd)],
  [(80, .iaload), (81, .invokevirtual 178), (84, .ifCond .le 9), (87, .iinc 2 1), (90, .goto (-58)), (93, .iload_n 2), (94, .ireturn)]])
theorem mok_R_read : MOK me_R_read 1 := ⟨List.mem_of_getElem? (i := 941) (by decide +kernel), List.mem_of_getElem? (i := 8) (by decide +kernel), by decide +kernel, by decide +kernel, rfl⟩
def me_R_asTold : MI := (⟨"BoatNamesModel", "asTold", "()V"⟩, prog_9_method_30_code, 2, none, 7, [
  [(0, .aload_n 0), (1, .invokevirtual 153), (4, .aload_n 0), (5, .aload_n 0), (6, .getfield 169), (9, .putfield 182), (12, .iconst 0), (13, .istore_n 1), (14, .iload_n 1), (15, .aload_n 0)],
  [(16, .getfield 169), (19, .if_icmp .ge 45), (22, .aload_n 0), (23, .getfield 43), (26, .iload_n 1), (27, .aload_n 0), (28, .getfield 34), (31, .iload_n 1)],
  [(32, .iaload), (33, .iastore), (34, .aload_n 0), (35, .getfield 46), (38, .iload_n 1), (39, .aload_n 0), (40, .getfield 37), (43, .iload_n 1), (44, .iaload), (45, .iastore), (46, .aload_n 0), (47, .getfield 49)],
  [(50, .iload_n 1), (51, .aload_n 0), (52, .getfield 40), (55, .iload_n 1), (56, .iaload), (57, .iastore), (58, .iinc 1 1), (61, .goto (-47))],
  [(64, .aload_n 0), (65, .iconst 0), (66, .putfield 185), (69, .return_)]])
theorem mok_R_asTold : MOK me_R_asTold 0 := ⟨List.mem_of_getElem? (i := 965) (by decide +kernel), List.mem_of_getElem? (i := 8) (by decide +kernel), by decide +kernel, by decide +kernel, rfl⟩
def me_R_storms : MI := (⟨"BoatNamesModel", "storms", "()V"⟩, prog_9_method_31_code, 3, none, 7, [
  [(0, .iconst 0), (1, .istore_n 1), (2, .iload_n 1), (3, .aload_n 0), (4, .getfield 137), (7, .if_icmp .ge 63), (10, .aload_n 0), (11, .getfield 22), (14, .iload_n 1), (15, .iaload)],
  [(16, .iconst 2), (17, .if_icmp .ne 7), (20, .iconst 2), (21, .goto 4), (24, .iconst 1), (25, .istore_n 2), (26, .aload_n 0), (27, .getfield 55), (30, .iload_n 1), (31, .iaload)],
  [(32, .iconst 1), (33, .if_icmp .ne 31), (36, .aload_n 0), (37, .getfield 64), (40, .iload_n 1), (41, .aload_n 0), (42, .getfield 64), (45, .iload_n 1), (46, .iaload), (47, .iload_n 2)],
  [(48, .if_icmp .le 14), (51, .aload_n 0), (52, .getfield 64), (55, .iload_n 1), (56, .iaload), (57, .iload_n 2), (58, .isub), (59, .goto 4), (62, .iconst 0), (63, .iastore)],
  [(64, .iinc 1 1), (67, .goto (-65)), (70, .return_)]])
theorem mok_R_storms : MOK me_R_storms 0 := ⟨List.mem_of_getElem? (i := 984) (by decide +kernel), List.mem_of_getElem? (i := 8) (by decide +kernel), by decide +kernel, by decide +kernel, rfl⟩
def me_R_shares : MI := (⟨"BoatNamesModel", "shares", "(I)V"⟩, prog_9_method_32_code, 3, none, 7, [
  [(0, .bipush 8), (2, .aload_n 0), (3, .getfield 58), (6, .iload_n 1), (7, .iaload), (8, .imul), (9, .aload_n 0), (10, .getfield 25), (13, .iload_n 1), (14, .iaload), (15, .iadd)],
  [(16, .istore_n 2), (17, .aload_n 0), (18, .getfield 61), (21, .iload_n 1), (22, .iconst 0), (23, .iastore), (24, .aload_n 0), (25, .getfield 52), (28, .iload_n 2), (29, .dup2), (30, .iaload), (31, .aload_n 0)],
  [(32, .getfield 52), (35, .iload_n 2), (36, .iaload), (37, .ifCond .le 7), (40, .iconst 1), (41, .goto 4), (44, .iconst 0), (45, .isub), (46, .iastore), (47, .return_)]])
theorem mok_R_shares : MOK me_R_shares 1 := ⟨List.mem_of_getElem? (i := 988) (by decide +kernel), List.mem_of_getElem? (i := 8) (by decide +kernel), by decide +kernel, by decide +kernel, rfl⟩
def me_R_makesUp : MI := (⟨"BoatNamesModel", "makesUp", "(I)V"⟩, prog_9_method_33_code, 2, none, 7, [
  [(0, .aload_n 0), (1, .getfield 52), (4, .bipush 8), (6, .aload_n 0), (7, .getfield 58), (10, .iload_n 1), (11, .iaload), (12, .imul), (13, .aload_n 0), (14, .getfield 25)],
  [(17, .iload_n 1), (18, .iaload), (19, .iadd), (20, .iconst 0), (21, .iastore), (22, .aload_n 0), (23, .getfield 52), (26, .bipush 8), (28, .aload_n 0), (29, .getfield 25)],
  [(32, .iload_n 1), (33, .iaload), (34, .imul), (35, .aload_n 0), (36, .getfield 58), (39, .iload_n 1), (40, .iaload), (41, .iadd), (42, .iconst 0), (43, .iastore), (44, .return_)]])
theorem mok_R_makesUp : MOK me_R_makesUp 1 := ⟨List.mem_of_getElem? (i := 992) (by decide +kernel), List.mem_of_getElem? (i := 8) (by decide +kernel), by decide +kernel, by decide +kernel, rfl⟩
def me_R_befalls : MI := (⟨"BoatNamesModel", "befalls", "(I)V"⟩, prog_9_method_34_code, 4, none, 7, [
  [(0, .aload_n 0), (1, .getfield 49), (4, .iload_n 1), (5, .iaload), (6, .istore_n 2), (7, .iload_n 2), (8, .aload_n 0), (9, .getfield 137), (12, .if_icmp .ge 17), (15, .aload_n 0)],
  [(16, .getfield 55), (19, .iload_n 2), (20, .iaload), (21, .iconst 1), (22, .if_icmp .ne 7), (25, .iconst 1), (26, .goto 4), (29, .iconst 0), (30, .istore_n 3), (31, .aload_n 0)],
  [(32, .getfield 43), (35, .iload_n 1), (36, .iaload), (37, .ifCond .ne 7), (40, .aload_n 0), (41, .invokevirtual 188), (44, .aload_n 0), (45, .getfield 43)],
  [(48, .iload_n 1), (49, .iaload), (50, .iconst 1), (51, .if_icmp .ne 12), (54, .iload_n 3), (55, .ifCond .eq 8), (58, .aload_n 0), (59, .iload_n 2), (60, .invokevirtual 191), (63, .aload_n 0)],
  [(64, .getfield 43), (67, .iload_n 1), (68, .iaload), (69, .iconst 2), (70, .if_icmp .ne 12), (73, .iload_n 3), (74, .ifCond .eq 8), (77, .aload_n 0), (78, .iload_n 2), (79, .invokevirtual 195)],
  [(82, .return_)]])
theorem mok_R_befalls : MOK me_R_befalls 1 := ⟨List.mem_of_getElem? (i := 980) (by decide +kernel), List.mem_of_getElem? (i := 8) (by decide +kernel), by decide +kernel, by decide +kernel, rfl⟩
def me_R_launches : MI := (⟨"BoatNamesModel", "launches", "(I)V"⟩, prog_9_method_35_code, 6, none, 7, [
  [(0, .iconst (-1)), (1, .istore_n 2), (2, .iconst 0), (3, .istore_n 3), (4, .iconst 0), (5, .istore 4), (7, .iload 4), (9, .bipush 8), (11, .if_icmp .ge 54), (14, .aload_n 0), (15, .getfield 52)],
  [(18, .bipush 8), (20, .iload 4), (22, .imul), (23, .aload_n 0), (24, .getfield 25), (27, .iload_n 1), (28, .iaload), (29, .iadd), (30, .iaload), (31, .istore 5)],
  [(33, .iload 5), (35, .iload_n 3), (36, .if_icmp .le 8), (39, .iload 4), (41, .goto 4), (44, .iload_n 2), (45, .istore_n 2), (46, .iload 5)],
  [(48, .iload_n 3), (49, .if_icmp .le 8), (52, .iload 5), (54, .goto 4), (57, .iload_n 3), (58, .istore_n 3), (59, .iinc 4 1), (62, .goto (-55))],
  [(65, .aload_n 0), (66, .getfield 58), (69, .iload_n 1), (70, .iload_n 2), (71, .iastore), (72, .aload_n 0), (73, .getfield 55), (76, .iload_n 1), (77, .iload_n 2), (78, .iconst (-1)), (79, .if_icmp .ne 7)],
  [(82, .iconst 3), (83, .goto 4), (86, .iconst 1), (87, .iastore), (88, .return_)]])
theorem mok_R_launches : MOK me_R_launches 1 := ⟨List.mem_of_getElem? (i := 996) (by decide +kernel), List.mem_of_getElem? (i := 8) (by decide +kernel), by decide +kernel, by decide +kernel, rfl⟩
def me_R_sails : MI := (⟨"BoatNamesModel", "sails", "(II)V"⟩, prog_9_method_36_code, 5, none, 7, [
  [(0, .aload_n 0), (1, .getfield 52), (4, .bipush 8), (6, .aload_n 0), (7, .getfield 58), (10, .iload_n 1), (11, .iaload), (12, .imul), (13, .aload_n 0), (14, .getfield 25)],
  [(17, .iload_n 1), (18, .iaload), (19, .iadd), (20, .iaload), (21, .istore_n 3), (22, .aload_n 0), (23, .getfield 61), (26, .iload_n 1), (27, .dup2), (28, .iaload), (29, .aload_n 0), (30, .getfield 22)],
  [(33, .iload_n 1), (34, .iaload), (35, .iconst 1), (36, .if_icmp .ne 9), (39, .iload_n 3), (40, .iconst 2), (41, .idiv), (42, .goto 4), (45, .iload_n 3), (46, .iadd), (47, .iastore)],
  [(48, .aload_n 0), (49, .getfield 61), (52, .iload_n 1), (53, .iaload), (54, .iconst 3), (55, .aload_n 0), (56, .getfield 64), (59, .iload_n 1), (60, .iaload), (61, .imul), (62, .if_icmp .gt 12)],
  [(65, .aload_n 0), (66, .getfield 64), (69, .iload_n 1), (70, .iaload), (71, .ifCond .ne 95), (74, .bipush 8), (76, .aload_n 0), (77, .getfield 25)],
  [(80, .iload_n 1), (81, .iaload), (82, .imul), (83, .aload_n 0), (84, .getfield 58), (87, .iload_n 1), (88, .iaload), (89, .iadd), (90, .istore 4), (92, .aload_n 0), (93, .getfield 55)],
  [(96, .iload_n 1), (97, .iconst 2), (98, .iastore), (99, .aload_n 0), (100, .getfield 52), (103, .iload 4), (105, .dup2), (106, .iaload), (107, .aload_n 0), (108, .getfield 52), (111, .iload 4)],
  [(113, .iaload), (114, .bipush 9), (116, .if_icmp .ge 7), (119, .iconst 1), (120, .goto 4), (123, .iconst 0), (124, .iadd), (125, .iastore), (126, .aload_n 0), (127, .aload_n 0)],
  [(128, .getfield 198), (131, .iconst (-1)), (132, .if_icmp .ne 7), (135, .iload_n 1), (136, .goto 7), (139, .aload_n 0), (140, .getfield 201), (143, .putfield 201)],
  [(146, .aload_n 0), (147, .aload_n 0), (148, .getfield 198), (151, .iconst (-1)), (152, .if_icmp .ne 7), (155, .iload_n 2), (156, .goto 7), (159, .aload_n 0)],
  [(160, .getfield 198), (163, .putfield 198), (166, .return_)]])
theorem mok_R_sails : MOK me_R_sails 2 := ⟨List.mem_of_getElem? (i := 1000) (by decide +kernel), List.mem_of_getElem? (i := 8) (by decide +kernel), by decide +kernel, by decide +kernel, rfl⟩
def me_R_goesBy : MI := (⟨"BoatNamesModel", "goesBy", "(I)V"⟩, prog_9_method_37_code, 4, none, 7, [
  [(0, .iconst 0), (1, .istore_n 2), (2, .iload_n 2), (3, .aload_n 0), (4, .getfield 182), (7, .if_icmp .ge 35), (10, .aload_n 0), (11, .getfield 46), (14, .iload_n 2), (15, .iaload)],
  [(16, .iload_n 1), (17, .if_icmp .ne 19), (20, .aload_n 0), (21, .getfield 185), (24, .iload_n 2), (25, .invokestatic 204), (28, .ifCond .ne 8), (31, .aload_n 0)],
  [(32, .iload_n 2), (33, .invokevirtual 207), (36, .iinc 2 1), (39, .goto (-37)), (42, .iconst 0), (43, .istore_n 2), (44, .iload_n 2), (45, .aload_n 0), (46, .getfield 137)],
  [(49, .if_icmp .ge 24), (52, .aload_n 0), (53, .getfield 28), (56, .iload_n 2), (57, .iaload), (58, .iload_n 1), (59, .if_icmp .ne 8), (62, .aload_n 0), (63, .iload_n 2)],
  [(64, .invokevirtual 210), (67, .iinc 2 1), (70, .goto (-26)), (73, .iconst 0), (74, .istore_n 2), (75, .iload_n 2), (76, .aload_n 0), (77, .getfield 137)],
  [(80, .if_icmp .ge 25), (83, .aload_n 0), (84, .getfield 55), (87, .iload_n 2), (88, .iaload), (89, .iconst 1), (90, .if_icmp .ne 9), (93, .aload_n 0), (94, .iload_n 2), (95, .iload_n 1)],
  [(96, .invokevirtual 213), (99, .iinc 2 1), (102, .goto (-27)), (105, .iconst 0), (106, .istore_n 2), (107, .iload_n 2), (108, .aload_n 0), (109, .getfield 137)],
  [(112, .if_icmp .ge 64), (115, .bipush 8), (117, .iload_n 1), (118, .imul), (119, .iload_n 2), (120, .iadd), (121, .istore_n 3), (122, .aload_n 0), (123, .getfield 67), (126, .iload_n 3), (127, .aload_n 0)],
  [(128, .getfield 55), (131, .iload_n 2), (132, .iaload), (133, .iastore), (134, .aload_n 0), (135, .getfield 70), (138, .iload_n 3), (139, .aload_n 0), (140, .getfield 58), (143, .iload_n 2)],
  [(144, .iaload), (145, .iastore), (146, .aload_n 0), (147, .getfield 73), (150, .iload_n 3), (151, .aload_n 0), (152, .getfield 61), (155, .iload_n 2), (156, .iaload), (157, .iastore), (158, .aload_n 0), (159, .getfield 76)],
  [(162, .iload_n 3), (163, .aload_n 0), (164, .getfield 64), (167, .iload_n 2), (168, .iaload), (169, .iastore), (170, .iinc 2 1), (173, .goto (-66))],
  [(176, .iconst 0), (177, .istore_n 2), (178, .iload_n 2), (179, .bipush 64), (181, .if_icmp .ge 26), (184, .aload_n 0), (185, .getfield 79), (188, .bipush 64), (190, .iload_n 1), (191, .imul)],
  [(192, .iload_n 2), (193, .iadd), (194, .aload_n 0), (195, .getfield 52), (198, .iload_n 2), (199, .iaload), (200, .iastore), (201, .iinc 2 1), (204, .goto (-26)), (207, .return_)]])
theorem mok_R_goesBy : MOK me_R_goesBy 1 := ⟨List.mem_of_getElem? (i := 973) (by decide +kernel), List.mem_of_getElem? (i := 8) (by decide +kernel), by decide +kernel, by decide +kernel, rfl⟩
def me_R_runs : MI := (⟨"BoatNamesModel", "runs", "()V"⟩, prog_9_method_38_code, 2, none, 7, [
  [(0, .iconst 0), (1, .istore_n 1), (2, .iload_n 1), (3, .bipush 64), (5, .if_icmp .ge 21), (8, .aload_n 0), (9, .getfield 52), (12, .iload_n 1), (13, .aload_n 0), (14, .getfield 19)],
  [(17, .iload_n 1), (18, .iaload), (19, .iastore), (20, .iinc 1 1), (23, .goto (-21)), (26, .iconst 0), (27, .istore_n 1), (28, .iload_n 1), (29, .aload_n 0), (30, .getfield 137)],
  [(33, .if_icmp .ge 42), (36, .aload_n 0), (37, .getfield 55), (40, .iload_n 1), (41, .iconst 0), (42, .iastore), (43, .aload_n 0), (44, .getfield 58), (47, .iload_n 1)],
  [(48, .iconst (-1)), (49, .iastore), (50, .aload_n 0), (51, .getfield 61), (54, .iload_n 1), (55, .iconst 0), (56, .iastore), (57, .aload_n 0), (58, .getfield 64), (61, .iload_n 1), (62, .aload_n 0), (63, .getfield 31)],
  [(66, .iload_n 1), (67, .iaload), (68, .iastore), (69, .iinc 1 1), (72, .goto (-44)), (75, .aload_n 0), (76, .iconst (-1)), (77, .putfield 198)],
  [(80, .aload_n 0), (81, .iconst (-1)), (82, .putfield 201), (85, .iconst 0), (86, .istore_n 1), (87, .iload_n 1), (88, .bipush 24), (90, .if_icmp .ge 14), (93, .aload_n 0), (94, .iload_n 1), (95, .invokevirtual 217)],
  [(98, .iinc 1 1), (101, .goto (-14)), (104, .return_)]])
theorem mok_R_runs : MOK me_R_runs 0 := ⟨List.mem_of_getElem? (i := 969) (by decide +kernel), List.mem_of_getElem? (i := 8) (by decide +kernel), by decide +kernel, by decide +kernel, rfl⟩
def me_R_runsTold : MI := (⟨"BoatNamesModel", "runsTold", "()V"⟩, prog_9_method_39_code, 1, none, 7, [
  [(0, .aload_n 0), (1, .invokevirtual 220), (4, .aload_n 0), (5, .invokevirtual 223), (8, .return_)]])
theorem mok_R_runsTold : MOK me_R_runsTold 0 := ⟨List.mem_of_getElem? (i := 961) (by decide +kernel), List.mem_of_getElem? (i := 8) (by decide +kernel), by decide +kernel, by decide +kernel, rfl⟩
def me_R_hatesOf : MI := (⟨"BoatNamesModel", "hatesOf", "(III)I"⟩, prog_9_method_40_code, 4, (some .int), 7, [
  [(0, .aload_n 0), (1, .invokevirtual 226), (4, .aload_n 0), (5, .getfield 79), (8, .bipush 64), (10, .iload_n 1), (11, .imul), (12, .bipush 8), (14, .iload_n 2), (15, .imul)],
  [(16, .iadd), (17, .iload_n 3), (18, .iadd), (19, .iaload), (20, .ireturn)]])
theorem mok_R_hatesOf : MOK me_R_hatesOf 3 := ⟨List.mem_of_getElem? (i := 957) (by decide +kernel), List.mem_of_getElem? (i := 8) (by decide +kernel), by decide +kernel, by decide +kernel, rfl⟩
def me_R_hates : MI := (⟨"BoatNamesModel", "hates", "(III)I"⟩, prog_9_method_41_code, 4, (some .int), 7, [
  [(0, .iload_n 1), (1, .invokestatic 130), (4, .ifCond .eq 21), (7, .iload_n 2), (8, .iload_n 3), (9, .invokestatic 156), (12, .ifCond .eq 13), (15, .aload_n 0)],
  [(16, .iload_n 1), (17, .iload_n 2), (18, .iload_n 3), (19, .invokevirtual 229), (22, .goto 5), (25, .bipush (-2)), (27, .ireturn)]])
theorem mok_R_hates : MOK me_R_hates 3 := ⟨List.mem_of_getElem? (i := 953) (by decide +kernel), List.mem_of_getElem? (i := 8) (by decide +kernel), by decide +kernel, by decide +kernel, rfl⟩
def me_R_atOf : MI := (⟨"BoatNamesModel", "atOf", "(III)I"⟩, prog_9_method_42_code, 5, (some .int), 7, [
  [(0, .aload_n 0), (1, .invokevirtual 226), (4, .bipush 8), (6, .iload_n 1), (7, .imul), (8, .iload_n 2), (9, .iadd), (10, .istore 4), (12, .iload_n 3), (13, .ifCond .ne 13)],
  [(16, .aload_n 0), (17, .getfield 67), (20, .iload 4), (22, .iaload), (23, .goto 40), (26, .iload_n 3), (27, .iconst 1), (28, .if_icmp .ne 13), (31, .aload_n 0)],
  [(32, .getfield 70), (35, .iload 4), (37, .iaload), (38, .goto 25), (41, .iload_n 3), (42, .iconst 2), (43, .if_icmp .ne 13), (46, .aload_n 0), (47, .getfield 73)],
  [(50, .iload 4), (52, .iaload), (53, .goto 10), (56, .aload_n 0), (57, .getfield 76), (60, .iload 4), (62, .iaload), (63, .ireturn)]])
theorem mok_R_atOf : MOK me_R_atOf 3 := ⟨List.mem_of_getElem? (i := 1008) (by decide +kernel), List.mem_of_getElem? (i := 8) (by decide +kernel), by decide +kernel, by decide +kernel, rfl⟩
def me_R_at : MI := (⟨"BoatNamesModel", "at", "(III)I"⟩, prog_9_method_43_code, 4, (some .int), 7, [
  [(0, .iload_n 1), (1, .invokestatic 130), (4, .ifCond .eq 30), (7, .aload_n 0), (8, .iload_n 2), (9, .invokevirtual 163), (12, .ifCond .eq 22), (15, .iload_n 3)],
  [(16, .iconst 0), (17, .iconst 3), (18, .invokestatic 115), (21, .ifCond .eq 13), (24, .aload_n 0), (25, .iload_n 1), (26, .iload_n 2), (27, .iload_n 3), (28, .invokevirtual 232), (31, .goto 5)],
  [(34, .bipush (-2)), (36, .ireturn)]])
theorem mok_R_at : MOK me_R_at 3 := ⟨List.mem_of_getElem? (i := 1004) (by decide +kernel), List.mem_of_getElem? (i := 8) (by decide +kernel), by decide +kernel, by decide +kernel, rfl⟩
def me_R_manyAt : MI := (⟨"BoatNamesModel", "manyAt", "(II)I"⟩, prog_9_method_44_code, 5, (some .int), 7, [
  [(0, .iconst 0), (1, .istore_n 3), (2, .iconst 0), (3, .istore 4), (5, .iload 4), (7, .aload_n 0), (8, .getfield 137), (11, .if_icmp .ge 33), (14, .iload_n 3), (15, .aload_n 0)],
  [(16, .getfield 67), (19, .bipush 8), (21, .iload_n 1), (22, .imul), (23, .iload 4), (25, .iadd), (26, .iaload), (27, .iload_n 2), (28, .if_icmp .ne 7), (31, .iconst 1)],
  [(32, .goto 4), (35, .iconst 0), (36, .iadd), (37, .istore_n 3), (38, .iinc 4 1), (41, .goto (-36)), (44, .iload_n 3), (45, .ireturn)]])
theorem mok_R_manyAt : MOK me_R_manyAt 2 := ⟨List.mem_of_getElem? (i := 1020) (by decide +kernel), List.mem_of_getElem? (i := 8) (by decide +kernel), by decide +kernel, by decide +kernel, rfl⟩
def me_R_afloatOf : MI := (⟨"BoatNamesModel", "afloatOf", "(I)I"⟩, prog_9_method_45_code, 2, (some .int), 7, [
  [(0, .aload_n 0), (1, .invokevirtual 226), (4, .aload_n 0), (5, .iload_n 1), (6, .iconst 1), (7, .invokevirtual 235), (10, .ireturn)]])
theorem mok_R_afloatOf : MOK me_R_afloatOf 1 := ⟨List.mem_of_getElem? (i := 1016) (by decide +kernel), List.mem_of_getElem? (i := 8) (by decide +kernel), by decide +kernel, by decide +kernel, rfl⟩
def me_R_afloat : MI := (⟨"BoatNamesModel", "afloat", "(I)I"⟩, prog_9_method_46_code, 2, (some .int), 7, [
  [(0, .iload_n 1), (1, .invokestatic 130), (4, .ifCond .eq 11), (7, .aload_n 0), (8, .iload_n 1), (9, .invokevirtual 238), (12, .goto 5), (15, .bipush (-2))],
  [(17, .ireturn)]])
theorem mok_R_afloat : MOK me_R_afloat 1 := ⟨List.mem_of_getElem? (i := 1012) (by decide +kernel), List.mem_of_getElem? (i := 8) (by decide +kernel), by decide +kernel, by decide +kernel, rfl⟩
def me_R_namedOf : MI := (⟨"BoatNamesModel", "namedOf", "(II)I"⟩, prog_9_method_47_code, 5, (some .int), 7, [
  [(0, .aload_n 0), (1, .invokevirtual 226), (4, .iconst 0), (5, .istore_n 3), (6, .iconst 0), (7, .istore 4), (9, .iload 4), (11, .aload_n 0), (12, .getfield 137), (15, .if_icmp .ge 43)],
  [(18, .iload_n 3), (19, .aload_n 0), (20, .getfield 58), (23, .iload 4), (25, .iaload), (26, .iload_n 1), (27, .if_icmp .ne 22), (30, .iload_n 2), (31, .ifCond .eq 14)],
  [(34, .aload_n 0), (35, .getfield 55), (38, .iload 4), (40, .iaload), (41, .iconst 2), (42, .if_icmp .ne 7), (45, .iconst 1), (46, .goto 4)],
  [(49, .iconst 0), (50, .iadd), (51, .istore_n 3), (52, .iinc 4 1), (55, .goto (-46)), (58, .iload_n 3), (59, .ireturn)]])
theorem mok_R_namedOf : MOK me_R_namedOf 2 := ⟨List.mem_of_getElem? (i := 1031) (by decide +kernel), List.mem_of_getElem? (i := 8) (by decide +kernel), by decide +kernel, by decide +kernel, rfl⟩
def me_R_named : MI := (⟨"BoatNamesModel", "named", "(II)I"⟩, prog_9_method_48_code, 3, (some .int), 7, [
  [(0, .iload_n 1), (1, .invokestatic 119), (4, .ifCond .eq 19), (7, .iload_n 2), (8, .invokestatic 241), (11, .ifCond .eq 12), (14, .aload_n 0), (15, .iload_n 1)],
  [(16, .iload_n 2), (17, .invokevirtual 244), (20, .goto 5), (23, .bipush (-2)), (25, .ireturn)]])
theorem mok_R_named : MOK me_R_named 2 := ⟨List.mem_of_getElem? (i := 1024) (by decide +kernel), List.mem_of_getElem? (i := 8) (by decide +kernel), by decide +kernel, by decide +kernel, rfl⟩
def me_R_firstOf : MI := (⟨"BoatNamesModel", "firstOf", "(I)I"⟩, prog_9_method_49_code, 2, (some .int), 7, [
  [(0, .aload_n 0), (1, .invokevirtual 226), (4, .iload_n 1), (5, .ifCond .ne 10), (8, .aload_n 0), (9, .getfield 198), (12, .goto 7), (15, .aload_n 0)],
  [(16, .getfield 201), (19, .ireturn)]])
theorem mok_R_firstOf : MOK me_R_firstOf 1 := ⟨List.mem_of_getElem? (i := 1039) (by decide +kernel), List.mem_of_getElem? (i := 8) (by decide +kernel), by decide +kernel, by decide +kernel, rfl⟩
def me_R_first : MI := (⟨"BoatNamesModel", "first", "(I)I"⟩, prog_9_method_50_code, 2, (some .int), 7, [
  [(0, .iload_n 1), (1, .invokestatic 241), (4, .ifCond .eq 11), (7, .aload_n 0), (8, .iload_n 1), (9, .invokevirtual 247), (12, .goto 5), (15, .bipush (-2))],
  [(17, .ireturn)]])
theorem mok_R_first : MOK me_R_first 1 := ⟨List.mem_of_getElem? (i := 1035) (by decide +kernel), List.mem_of_getElem? (i := 8) (by decide +kernel), by decide +kernel, by decide +kernel, rfl⟩
def me_R_lovedOf : MI := (⟨"BoatNamesModel", "lovedOf", "()I"⟩, prog_9_method_51_code, 3, (some .int), 7, [
  [(0, .aload_n 0), (1, .invokevirtual 226), (4, .sipush 255), (7, .istore_n 1), (8, .iconst 0), (9, .istore_n 2), (10, .iload_n 2), (11, .bipush 64), (13, .if_icmp .ge 33)],
  [(16, .iload_n 1), (17, .aload_n 0), (18, .getfield 52), (21, .iload_n 2), (22, .iaload), (23, .ifCond .le 14), (26, .iconst 1), (27, .iload_n 2), (28, .bipush 8), (30, .irem), (31, .ishl)],
  [(32, .iconst (-1)), (33, .ixor), (34, .goto 4), (37, .iconst (-1)), (38, .iand), (39, .istore_n 1), (40, .iinc 2 1), (43, .goto (-33)), (46, .iload_n 1), (47, .ireturn)]])
theorem mok_R_lovedOf : MOK me_R_lovedOf 0 := ⟨List.mem_of_getElem? (i := 1047) (by decide +kernel), List.mem_of_getElem? (i := 8) (by decide +kernel), by decide +kernel, by decide +kernel, rfl⟩
def me_R_loved : MI := (⟨"BoatNamesModel", "loved", "()I"⟩, prog_9_method_52_code, 1, (some .int), 7, [
  [(0, .aload_n 0), (1, .invokevirtual 250), (4, .ireturn)]])
theorem mok_R_loved : MOK me_R_loved 0 := ⟨List.mem_of_getElem? (i := 1043) (by decide +kernel), List.mem_of_getElem? (i := 8) (by decide +kernel), by decide +kernel, by decide +kernel, rfl⟩
def me_R_hatesAll : MI := (⟨"BoatNamesModel", "hatesAll", "(I)I"⟩, prog_9_method_53_code, 4, (some .int), 7, [
  [(0, .iconst 0), (1, .istore_n 2), (2, .iconst 0), (3, .istore_n 3), (4, .iload_n 3), (5, .bipush 8), (7, .if_icmp .ge 23), (10, .iload_n 2), (11, .aload_n 0), (12, .getfield 52), (15, .bipush 8)],
  [(17, .iload_n 1), (18, .imul), (19, .iload_n 3), (20, .iadd), (21, .iaload), (22, .iadd), (23, .istore_n 2), (24, .iinc 3 1), (27, .goto (-23)), (30, .iload_n 2), (31, .ireturn)]])
theorem mok_R_hatesAll : MOK me_R_hatesAll 1 := ⟨List.mem_of_getElem? (i := 1059) (by decide +kernel), List.mem_of_getElem? (i := 8) (by decide +kernel), by decide +kernel, by decide +kernel, rfl⟩
def me_R_bitterOf : MI := (⟨"BoatNamesModel", "bitterOf", "()I"⟩, prog_9_method_54_code, 3, (some .int), 7, [
  [(0, .aload_n 0), (1, .invokevirtual 226), (4, .iconst 0), (5, .istore_n 1), (6, .iconst 1), (7, .istore_n 2), (8, .iload_n 2), (9, .bipush 8), (11, .if_icmp .ge 28), (14, .aload_n 0), (15, .iload_n 2)],
  [(16, .invokevirtual 254), (19, .aload_n 0), (20, .iload_n 1), (21, .invokevirtual 254), (24, .if_icmp .le 7), (27, .iload_n 2), (28, .goto 4), (31, .iload_n 1)],
  [(32, .istore_n 1), (33, .iinc 2 1), (36, .goto (-28)), (39, .iload_n 1), (40, .ireturn)]])
theorem mok_R_bitterOf : MOK me_R_bitterOf 0 := ⟨List.mem_of_getElem? (i := 1055) (by decide +kernel), List.mem_of_getElem? (i := 8) (by decide +kernel), by decide +kernel, by decide +kernel, rfl⟩
def me_R_bitter : MI := (⟨"BoatNamesModel", "bitter", "()I"⟩, prog_9_method_55_code, 1, (some .int), 7, [
  [(0, .aload_n 0), (1, .invokevirtual 257), (4, .ireturn)]])
theorem mok_R_bitter : MOK me_R_bitter 0 := ⟨List.mem_of_getElem? (i := 1051) (by decide +kernel), List.mem_of_getElem? (i := 8) (by decide +kernel), by decide +kernel, by decide +kernel, rfl⟩
def me_R_longNow : MI := (⟨"BoatNamesModel", "longNow", "(I)I"⟩, prog_9_method_56_code, 4, (some .int), 7, [
  [(0, .iconst 0), (1, .istore_n 2), (2, .iconst 0), (3, .istore_n 3), (4, .iload_n 3), (5, .bipush 24), (7, .if_icmp .ge 32), (10, .iload_n 2), (11, .aload_n 0), (12, .getfield 67), (15, .bipush 8)],
  [(17, .iload_n 3), (18, .imul), (19, .iload_n 1), (20, .iadd), (21, .iaload), (22, .iconst 1), (23, .if_icmp .ne 7), (26, .iconst 1), (27, .goto 4), (30, .iconst 0), (31, .iadd)],
  [(32, .istore_n 2), (33, .iinc 3 1), (36, .goto (-32)), (39, .iload_n 2), (40, .ireturn)]])
theorem mok_R_longNow : MOK me_R_longNow 1 := ⟨List.mem_of_getElem? (i := 1071) (by decide +kernel), List.mem_of_getElem? (i := 8) (by decide +kernel), by decide +kernel, by decide +kernel, rfl⟩
def me_R_longOf : MI := (⟨"BoatNamesModel", "longOf", "(I)I"⟩, prog_9_method_57_code, 2, (some .int), 7, [
  [(0, .aload_n 0), (1, .invokevirtual 226), (4, .aload_n 0), (5, .iload_n 1), (6, .invokevirtual 260), (9, .ireturn)]])
theorem mok_R_longOf : MOK me_R_longOf 1 := ⟨List.mem_of_getElem? (i := 1067) (by decide +kernel), List.mem_of_getElem? (i := 8) (by decide +kernel), by decide +kernel, by decide +kernel, rfl⟩
def me_R_longs : MI := (⟨"BoatNamesModel", "longs", "(I)I"⟩, prog_9_method_58_code, 2, (some .int), 7, [
  [(0, .aload_n 0), (1, .iload_n 1), (2, .invokevirtual 163), (5, .ifCond .eq 11), (8, .aload_n 0), (9, .iload_n 1), (10, .invokevirtual 263), (13, .goto 5)],
  [(16, .bipush (-2)), (18, .ireturn)]])
theorem mok_R_longs : MOK me_R_longs 1 := ⟨List.mem_of_getElem? (i := 1063) (by decide +kernel), List.mem_of_getElem? (i := 8) (by decide +kernel), by decide +kernel, by decide +kernel, rfl⟩
def me_R_wrongOf : MI := (⟨"BoatNamesModel", "wrongOf", "(II)I"⟩, prog_9_method_59_code, 9, (some .int), 7, [
  [(0, .aload_n 0), (1, .invokevirtual 220), (4, .iconst (-1)), (5, .istore_n 3), (6, .iconst (-1)), (7, .istore 4), (9, .iconst 0), (10, .istore 5), (12, .iload 5), (14, .bipush 8)],
  [(16, .if_icmp .ge 101), (19, .iload 5), (21, .aload_n 0), (22, .getfield 25), (25, .iload_n 1), (26, .iaload), (27, .if_icmp .eq 84), (30, .bipush 8)],
  [(32, .iload 5), (34, .imul), (35, .aload_n 0), (36, .getfield 25), (39, .iload_n 1), (40, .iaload), (41, .iadd), (42, .istore 6), (44, .aload_n 0), (45, .getfield 19)],
  [(48, .iload 6), (50, .iaload), (51, .istore 7), (53, .aload_n 0), (54, .getfield 19), (57, .iload 6), (59, .iconst 5), (60, .iastore), (61, .aload_n 0), (62, .invokevirtual 223)],
  [(65, .aload_n 0), (66, .getfield 19), (69, .iload 6), (71, .iload 7), (73, .iastore), (74, .aload_n 0), (75, .iload_n 1), (76, .invokevirtual 260), (79, .istore 8)],
  [(81, .iload 8), (83, .iload 4), (85, .if_icmp .le 8), (88, .iload 5), (90, .goto 4), (93, .iload_n 3), (94, .istore_n 3), (95, .iload 8)],
  [(97, .iload 4), (99, .if_icmp .le 8), (102, .iload 8), (104, .goto 5), (107, .iload 4), (109, .istore 4), (111, .iinc 5 1)],
  [(114, .goto (-102)), (117, .iload_n 2), (118, .ifCond .ne 7), (121, .iload_n 3), (122, .goto 5), (125, .iload 4), (127, .ireturn)]])
theorem mok_R_wrongOf : MOK me_R_wrongOf 2 := ⟨List.mem_of_getElem? (i := 1079) (by decide +kernel), List.mem_of_getElem? (i := 8) (by decide +kernel), by decide +kernel, by decide +kernel, rfl⟩
def me_R_wrong : MI := (⟨"BoatNamesModel", "wrong", "(II)I"⟩, prog_9_method_60_code, 3, (some .int), 7, [
  [(0, .aload_n 0), (1, .iload_n 1), (2, .invokevirtual 163), (5, .ifCond .eq 19), (8, .iload_n 2), (9, .invokestatic 241), (12, .ifCond .eq 12), (15, .aload_n 0)],
  [(16, .iload_n 1), (17, .iload_n 2), (18, .invokevirtual 266), (21, .goto 5), (24, .bipush (-2)), (26, .ireturn)]])
theorem mok_R_wrong : MOK me_R_wrong 2 := ⟨List.mem_of_getElem? (i := 1075) (by decide +kernel), List.mem_of_getElem? (i := 8) (by decide +kernel), by decide +kernel, by decide +kernel, rfl⟩
def me_R_payOf : MI := (⟨"BoatNamesModel", "payOf", "(II)I"⟩, prog_9_method_61_code, 7, (some .int), 7, [
  [(0, .aload_n 0), (1, .invokevirtual 220), (4, .iconst (-1)), (5, .istore_n 3), (6, .iconst (-1)), (7, .istore 4), (9, .aload_n 0), (10, .aload_n 0), (11, .getfield 169), (14, .iconst 1), (15, .iadd)],
  [(16, .putfield 182), (19, .aload_n 0), (20, .getfield 43), (23, .aload_n 0), (24, .getfield 169), (27, .iconst 1), (28, .iastore), (29, .aload_n 0), (30, .getfield 49)],
  [(33, .aload_n 0), (34, .getfield 169), (37, .iload_n 1), (38, .iastore), (39, .iconst 0), (40, .istore 5), (42, .iload 5), (44, .bipush 24), (46, .if_icmp .ge 61)],
  [(49, .aload_n 0), (50, .getfield 46), (53, .aload_n 0), (54, .getfield 169), (57, .iload 5), (59, .iastore), (60, .aload_n 0), (61, .invokevirtual 223)],
  [(64, .aload_n 0), (65, .iload_n 1), (66, .invokevirtual 260), (69, .istore 6), (71, .iload 6), (73, .iload 4), (75, .if_icmp .le 8), (78, .iload 5)],
  [(80, .goto 4), (83, .iload_n 3), (84, .istore_n 3), (85, .iload 6), (87, .iload 4), (89, .if_icmp .le 8), (92, .iload 6), (94, .goto 5)],
  [(97, .iload 4), (99, .istore 4), (101, .iinc 5 1), (104, .goto (-62)), (107, .iload_n 2), (108, .ifCond .ne 7), (111, .iload_n 3)],
  [(112, .goto 5), (115, .iload 4), (117, .ireturn)]])
theorem mok_R_payOf : MOK me_R_payOf 2 := ⟨List.mem_of_getElem? (i := 1087) (by decide +kernel), List.mem_of_getElem? (i := 8) (by decide +kernel), by decide +kernel, by decide +kernel, rfl⟩
def me_R_pay : MI := (⟨"BoatNamesModel", "pay", "(II)I"⟩, prog_9_method_62_code, 3, (some .int), 7, [
  [(0, .aload_n 0), (1, .iload_n 1), (2, .invokevirtual 163), (5, .ifCond .eq 19), (8, .iload_n 2), (9, .invokestatic 241), (12, .ifCond .eq 12), (15, .aload_n 0)],
  [(16, .iload_n 1), (17, .iload_n 2), (18, .invokevirtual 269), (21, .goto 5), (24, .bipush (-2)), (26, .ireturn)]])
theorem mok_R_pay : MOK me_R_pay 2 := ⟨List.mem_of_getElem? (i := 1083) (by decide +kernel), List.mem_of_getElem? (i := 8) (by decide +kernel), by decide +kernel, by decide +kernel, rfl⟩
def me_R_waitsOf : MI := (⟨"BoatNamesModel", "waitsOf", "(II)I"⟩, prog_9_method_63_code, 9, (some .int), 7, [
  [(0, .aload_n 0), (1, .invokevirtual 220), (4, .aload_n 0), (5, .getfield 28), (8, .iload_n 1), (9, .iaload), (10, .istore_n 3), (11, .iconst (-1)), (12, .istore 4), (14, .iconst 0), (15, .istore 5)],
  [(17, .iconst 0), (18, .istore 6), (20, .iload 6), (22, .bipush 24), (24, .if_icmp .ge 78), (27, .aload_n 0), (28, .getfield 28), (31, .iload_n 1)],
  [(32, .iload 6), (34, .iastore), (35, .aload_n 0), (36, .invokevirtual 223), (39, .aload_n 0), (40, .bipush 23), (42, .iconst 2), (43, .invokevirtual 235), (46, .istore 7)],
  [(48, .iload 4), (50, .iconst (-1)), (51, .if_icmp .eq 10), (54, .iload 7), (56, .iload 5), (58, .if_icmp .ge 7), (61, .iconst 1), (62, .goto 4)],
  [(65, .iconst 0), (66, .istore 8), (68, .iload 8), (70, .ifCond .eq 8), (73, .iload 6), (75, .goto 5), (78, .iload 4)],
  [(80, .istore 4), (82, .iload 8), (84, .ifCond .eq 8), (87, .iload 7), (89, .goto 5), (92, .iload 5), (94, .istore 5)],
  [(96, .iinc 6 1), (99, .goto (-79)), (102, .aload_n 0), (103, .getfield 28), (106, .iload_n 1), (107, .iload_n 3), (108, .iastore), (109, .iload_n 2), (110, .ifCond .ne 8)],
  [(113, .iload 4), (115, .goto 5), (118, .iload 5), (120, .ireturn)]])
theorem mok_R_waitsOf : MOK me_R_waitsOf 2 := ⟨List.mem_of_getElem? (i := 1095) (by decide +kernel), List.mem_of_getElem? (i := 8) (by decide +kernel), by decide +kernel, by decide +kernel, rfl⟩
def me_R_waits : MI := (⟨"BoatNamesModel", "waits", "(II)I"⟩, prog_9_method_64_code, 3, (some .int), 7, [
  [(0, .aload_n 0), (1, .iload_n 1), (2, .invokevirtual 163), (5, .ifCond .eq 19), (8, .iload_n 2), (9, .invokestatic 241), (12, .ifCond .eq 12), (15, .aload_n 0)],
  [(16, .iload_n 1), (17, .iload_n 2), (18, .invokevirtual 272), (21, .goto 5), (24, .bipush (-2)), (26, .ireturn)]])
theorem mok_R_waits : MOK me_R_waits 2 := ⟨List.mem_of_getElem? (i := 1091) (by decide +kernel), List.mem_of_getElem? (i := 8) (by decide +kernel), by decide +kernel, by decide +kernel, rfl⟩
def me_R_isSpared : MI := (⟨"BoatNamesModel", "isSpared", "(I)Z"⟩, prog_9_method_65_code, 2, (some .boolean), 7, [
  [(0, .aload_n 0), (1, .iload_n 1), (2, .putfield 185), (5, .aload_n 0), (6, .invokevirtual 223), (9, .aload_n 0), (10, .bipush 23), (12, .iconst 2), (13, .invokevirtual 235)],
  [(16, .ifCond .ne 7), (19, .iconst 1), (20, .goto 4), (23, .iconst 0), (24, .ireturn)]])
theorem mok_R_isSpared : MOK me_R_isSpared 1 := ⟨List.mem_of_getElem? (i := 1107) (by decide +kernel), List.mem_of_getElem? (i := 8) (by decide +kernel), by decide +kernel, by decide +kernel, rfl⟩
def me_R_spareBy : MI := (⟨"BoatNamesModel", "spareBy", "()I"⟩, prog_9_method_66_code, 3, (some .int), 7, [
  [(0, .aload_n 0), (1, .invokevirtual 220), (4, .aload_n 0), (5, .iconst 0), (6, .invokevirtual 275), (9, .ifCond .eq 5), (12, .iconst 0), (13, .ireturn), (14, .iconst 0), (15, .istore_n 1)],
  [(16, .iload_n 1), (17, .aload_n 0), (18, .getfield 169), (21, .if_icmp .ge 28), (24, .aload_n 0), (25, .getfield 82), (28, .iconst 0), (29, .iload_n 1), (30, .iastore), (31, .aload_n 0)],
  [(32, .iconst 1), (33, .iload_n 1), (34, .ishl), (35, .invokevirtual 275), (38, .ifCond .eq 5), (41, .iconst 1), (42, .ireturn), (43, .iinc 1 1), (46, .goto (-30))],
  [(49, .iconst 0), (50, .istore_n 1), (51, .iload_n 1), (52, .aload_n 0), (53, .getfield 169), (56, .if_icmp .ge 57), (59, .iload_n 1), (60, .iconst 1), (61, .iadd), (62, .istore_n 2), (63, .iload_n 2)],
  [(64, .aload_n 0), (65, .getfield 169), (68, .if_icmp .ge 39), (71, .aload_n 0), (72, .getfield 82), (75, .iconst 0), (76, .iload_n 1), (77, .iastore), (78, .aload_n 0), (79, .getfield 82)],
  [(82, .iconst 1), (83, .iload_n 2), (84, .iastore), (85, .aload_n 0), (86, .iconst 1), (87, .iload_n 1), (88, .ishl), (89, .iconst 1), (90, .iload_n 2), (91, .ishl), (92, .ior), (93, .invokevirtual 275)],
  [(96, .ifCond .eq 5), (99, .iconst 2), (100, .ireturn), (101, .iinc 2 1), (104, .goto (-41)), (107, .iinc 1 1), (110, .goto (-59))],
  [(113, .iconst (-1)), (114, .ireturn)]])
theorem mok_R_spareBy : MOK me_R_spareBy 0 := ⟨List.mem_of_getElem? (i := 1103) (by decide +kernel), List.mem_of_getElem? (i := 8) (by decide +kernel), by decide +kernel, by decide +kernel, rfl⟩
def me_R_ofRow : MI := (⟨"BoatNamesModel", "ofRow", "(II)I"⟩, prog_9_method_67_code, 3, (some .int), 7, [
  [(0, .iload_n 2), (1, .iconst (-1)), (2, .if_icmp .ne 7), (5, .iload_n 1), (6, .goto 18), (9, .iload_n 2), (10, .iload_n 1), (11, .if_icmp .ge 12), (14, .aload_n 0), (15, .getfield 82)],
  [(18, .iload_n 2), (19, .iaload), (20, .goto 4), (23, .iconst (-1)), (24, .ireturn)]])
theorem mok_R_ofRow : MOK me_R_ofRow 2 := ⟨List.mem_of_getElem? (i := 1111) (by decide +kernel), List.mem_of_getElem? (i := 8) (by decide +kernel), by decide +kernel, by decide +kernel, rfl⟩
def me_R_spare : MI := (⟨"BoatNamesModel", "spare", "(I)I"⟩, prog_9_method_68_code, 2, (some .int), 7, [
  [(0, .iload_n 1), (1, .iconst (-1)), (2, .iconst 1), (3, .invokestatic 115), (6, .ifCond .eq 15), (9, .aload_n 0), (10, .aload_n 0), (11, .invokevirtual 278), (14, .iload_n 1), (15, .invokevirtual 281)],
  [(18, .goto 5), (21, .bipush (-2)), (23, .ireturn)]])
theorem mok_R_spare : MOK me_R_spare 1 := ⟨List.mem_of_getElem? (i := 1099) (by decide +kernel), List.mem_of_getElem? (i := 8) (by decide +kernel), by decide +kernel, by decide +kernel, rfl⟩
def me_R_seen : MI := (⟨"BoatNamesModel", "seen", "(III)I"⟩, prog_9_method_69_code, 4, (some .int), 7, [
  [(0, .iload_n 1), (1, .invokestatic 130), (4, .ifCond .eq 20), (7, .iload_n 2), (8, .invokestatic 119), (11, .ifCond .eq 13), (14, .iload_n 3), (15, .iconst 0)],
  [(16, .bipush 8), (18, .invokestatic 115), (21, .ifCond .ne 6), (24, .bipush (-2)), (26, .ireturn), (27, .aload_n 0), (28, .getfield 284), (31, .bipush 8)],
  [(33, .if_icmp .ne 6), (36, .bipush (-4)), (38, .ireturn), (39, .aload_n 0), (40, .getfield 85), (43, .aload_n 0), (44, .getfield 284), (47, .iload_n 1)],
  [(48, .iastore), (49, .aload_n 0), (50, .getfield 88), (53, .aload_n 0), (54, .getfield 284), (57, .iload_n 2), (58, .iastore), (59, .aload_n 0), (60, .getfield 91), (63, .aload_n 0)],
  [(64, .getfield 284), (67, .iload_n 3), (68, .iastore), (69, .aload_n 0), (70, .dup), (71, .getfield 284), (74, .iconst 1), (75, .iadd), (76, .putfield 284), (79, .aload_n 0)],
  [(80, .getfield 284), (83, .ireturn)]])
theorem mok_R_seen : MOK me_R_seen 3 := ⟨List.mem_of_getElem? (i := 1115) (by decide +kernel), List.mem_of_getElem? (i := 8) (by decide +kernel), by decide +kernel, by decide +kernel, rfl⟩
def me_R_forget : MI := (⟨"BoatNamesModel", "forget", "()I"⟩, prog_9_method_70_code, 2, (some .int), 7, [
  [(0, .aload_n 0), (1, .getfield 284), (4, .istore_n 1), (5, .aload_n 0), (6, .iconst 0), (7, .putfield 284), (10, .iload_n 1), (11, .ireturn)]])
theorem mok_R_forget : MOK me_R_forget 0 := ⟨List.mem_of_getElem? (i := 1119) (by decide +kernel), List.mem_of_getElem? (i := 8) (by decide +kernel), by decide +kernel, by decide +kernel, rfl⟩
def me_R_isSeen : MI := (⟨"BoatNamesModel", "isSeen", "()Z"⟩, prog_9_method_71_code, 4, (some .boolean), 7, [
  [(0, .aload_n 0), (1, .invokevirtual 223), (4, .iconst 1), (5, .istore_n 1), (6, .iconst 0), (7, .istore_n 2), (8, .iload_n 2), (9, .aload_n 0), (10, .getfield 284), (13, .if_icmp .ge 79)],
  [(16, .iload_n 1), (17, .ifCond .eq 75), (20, .aload_n 0), (21, .getfield 88), (24, .iload_n 2), (25, .iaload), (26, .aload_n 0), (27, .getfield 137), (30, .if_icmp .ge 27)],
  [(33, .aload_n 0), (34, .getfield 70), (37, .bipush 8), (39, .aload_n 0), (40, .getfield 85), (43, .iload_n 2), (44, .iaload), (45, .imul), (46, .aload_n 0), (47, .getfield 88)],
  [(50, .iload_n 2), (51, .iaload), (52, .iadd), (53, .iaload), (54, .goto 5), (57, .bipush 9), (59, .istore_n 3), (60, .iload_n 3), (61, .iconst (-1)), (62, .if_icmp .ne 8)],
  [(65, .bipush 8), (67, .goto 4), (70, .iload_n 3), (71, .aload_n 0), (72, .getfield 91), (75, .iload_n 2), (76, .iaload), (77, .if_icmp .ne 7)],
  [(80, .iconst 1), (81, .goto 4), (84, .iconst 0), (85, .istore_n 1), (86, .iinc 2 1), (89, .goto (-81)), (92, .iload_n 1), (93, .ireturn)]])
theorem mok_R_isSeen : MOK me_R_isSeen 0 := ⟨List.mem_of_getElem? (i := 1131) (by decide +kernel), List.mem_of_getElem? (i := 8) (by decide +kernel), by decide +kernel, by decide +kernel, rfl⟩
def me_R_neverNow : MI := (⟨"BoatNamesModel", "neverNow", "()I"⟩, prog_9_method_72_code, 3, (some .int), 7, [
  [(0, .aload_n 0), (1, .invokevirtual 220), (4, .iconst 0), (5, .istore_n 1), (6, .iconst 0), (7, .istore_n 2), (8, .iload_n 2), (9, .aload_n 0), (10, .getfield 169), (13, .if_icmp .ge 33)],
  [(16, .aload_n 0), (17, .iconst 1), (18, .iload_n 2), (19, .ishl), (20, .putfield 185), (23, .iload_n 1), (24, .aload_n 0), (25, .invokevirtual 287), (28, .ifCond .eq 9), (31, .iconst 1)],
  [(32, .iload_n 2), (33, .ishl), (34, .goto 4), (37, .iconst 0), (38, .ior), (39, .istore_n 1), (40, .iinc 2 1), (43, .goto (-35)), (46, .iload_n 1), (47, .ireturn)]])
theorem mok_R_neverNow : MOK me_R_neverNow 0 := ⟨List.mem_of_getElem? (i := 1127) (by decide +kernel), List.mem_of_getElem? (i := 8) (by decide +kernel), by decide +kernel, by decide +kernel, rfl⟩
def me_R_never : MI := (⟨"BoatNamesModel", "never", "()I"⟩, prog_9_method_73_code, 1, (some .int), 7, [
  [(0, .aload_n 0), (1, .invokevirtual 291), (4, .ireturn)]])
theorem mok_R_never : MOK me_R_never 0 := ⟨List.mem_of_getElem? (i := 1123) (by decide +kernel), List.mem_of_getElem? (i := 8) (by decide +kernel), by decide +kernel, by decide +kernel, rfl⟩
def me_R_sortsBy : MI := (⟨"BoatNamesModel", "sortsBy", "(I)I"⟩, prog_9_method_74_code, 5, (some .int), 7, [
  [(0, .aload_n 0), (1, .invokevirtual 220), (4, .aload_n 0), (5, .getfield 22), (8, .iload_n 1), (9, .iaload), (10, .istore_n 2), (11, .iconst 0), (12, .istore_n 3), (13, .iconst 0), (14, .istore 4)],
  [(16, .iload 4), (18, .iconst 3), (19, .if_icmp .ge 35), (22, .aload_n 0), (23, .getfield 22), (26, .iload_n 1), (27, .iload 4), (29, .iastore), (30, .iload_n 3), (31, .aload_n 0)],
  [(32, .invokevirtual 287), (35, .ifCond .eq 10), (38, .iconst 1), (39, .iload 4), (41, .ishl), (42, .goto 4), (45, .iconst 0), (46, .ior), (47, .istore_n 3)],
  [(48, .iinc 4 1), (51, .goto (-35)), (54, .aload_n 0), (55, .getfield 22), (58, .iload_n 1), (59, .iload_n 2), (60, .iastore), (61, .iload_n 3), (62, .ireturn)]])
theorem mok_R_sortsBy : MOK me_R_sortsBy 1 := ⟨List.mem_of_getElem? (i := 1139) (by decide +kernel), List.mem_of_getElem? (i := 8) (by decide +kernel), by decide +kernel, by decide +kernel, rfl⟩
def me_R_sort : MI := (⟨"BoatNamesModel", "sort", "(I)I"⟩, prog_9_method_75_code, 2, (some .int), 7, [
  [(0, .aload_n 0), (1, .iload_n 1), (2, .invokevirtual 163), (5, .ifCond .eq 11), (8, .aload_n 0), (9, .iload_n 1), (10, .invokevirtual 294), (13, .goto 5)],
  [(16, .bipush (-2)), (18, .ireturn)]])
theorem mok_R_sort : MOK me_R_sort 1 := ⟨List.mem_of_getElem? (i := 1135) (by decide +kernel), List.mem_of_getElem? (i := 8) (by decide +kernel), by decide +kernel, by decide +kernel, rfl⟩
def me_R_namesAll : MI := (⟨"BoatNamesModel", "namesAll", "(I)I"⟩, prog_9_method_76_code, 4, (some .int), 7, [
  [(0, .iconst 0), (1, .istore_n 2), (2, .iconst 0), (3, .istore_n 3), (4, .iload_n 3), (5, .aload_n 0), (6, .getfield 137), (9, .if_icmp .ge 29), (12, .iload_n 2), (13, .aload_n 0), (14, .getfield 70)],
  [(17, .bipush 8), (19, .iload_n 1), (20, .imul), (21, .iload_n 3), (22, .iadd), (23, .iaload), (24, .iconst 1), (25, .iadd), (26, .iconst 4), (27, .iload_n 3), (28, .imul), (29, .ishl), (30, .ior), (31, .istore_n 2)],
  [(32, .iinc 3 1), (35, .goto (-31)), (38, .iload_n 2), (39, .ireturn)]])
theorem mok_R_namesAll : MOK me_R_namesAll 1 := ⟨List.mem_of_getElem? (i := 1151) (by decide +kernel), List.mem_of_getElem? (i := 8) (by decide +kernel), by decide +kernel, by decide +kernel, rfl⟩
def me_R_hatedBy : MI := (⟨"BoatNamesModel", "hatedBy", "(II)I"⟩, prog_9_method_77_code, 8, (some .int), 7, [
  [(0, .aload_n 0), (1, .invokevirtual 220), (4, .bipush 8), (6, .iload_n 1), (7, .imul), (8, .iload_n 2), (9, .iadd), (10, .istore_n 3), (11, .aload_n 0), (12, .getfield 19), (15, .iload_n 3)],
  [(16, .iaload), (17, .istore 4), (19, .iconst 0), (20, .istore 5), (22, .iconst 0), (23, .istore 6), (25, .iload 6), (27, .bipush 10), (29, .if_icmp .ge 72)],
  [(32, .aload_n 0), (33, .getfield 19), (36, .iload_n 3), (37, .iload 6), (39, .iastore), (40, .iload 5), (42, .aload_n 0), (43, .invokevirtual 287), (46, .ifCond .eq 10)],
  [(49, .iconst 1), (50, .iload 6), (52, .ishl), (53, .goto 4), (56, .iconst 0), (57, .ior), (58, .istore 5), (60, .iconst 0), (61, .istore 7), (63, .iload 7)],
  [(65, .bipush 24), (67, .if_icmp .ge 28), (70, .aload_n 0), (71, .getfield 94), (74, .bipush 24), (76, .iload 6), (78, .imul), (79, .iload 7)],
  [(81, .iadd), (82, .aload_n 0), (83, .iload 7), (85, .invokevirtual 297), (88, .iastore), (89, .iinc 7 1), (92, .goto (-29)), (95, .iinc 6 1)],
  [(98, .goto (-73)), (101, .aload_n 0), (102, .getfield 19), (105, .iload_n 3), (106, .iload 4), (108, .iastore), (109, .iload 5), (111, .ireturn)]])
theorem mok_R_hatedBy : MOK me_R_hatedBy 2 := ⟨List.mem_of_getElem? (i := 1147) (by decide +kernel), List.mem_of_getElem? (i := 8) (by decide +kernel), by decide +kernel, by decide +kernel, rfl⟩
def me_R_hated : MI := (⟨"BoatNamesModel", "hated", "(II)I"⟩, prog_9_method_78_code, 3, (some .int), 7, [
  [(0, .iload_n 1), (1, .iload_n 2), (2, .invokestatic 156), (5, .ifCond .eq 12), (8, .aload_n 0), (9, .iload_n 1), (10, .iload_n 2), (11, .invokevirtual 300), (14, .goto 5)],
  [(17, .bipush (-2)), (19, .ireturn)]])
theorem mok_R_hated : MOK me_R_hated 2 := ⟨List.mem_of_getElem? (i := 1143) (by decide +kernel), List.mem_of_getElem? (i := 8) (by decide +kernel), by decide +kernel, by decide +kernel, rfl⟩
def me_R_askOf : MI := (⟨"BoatNamesModel", "askOf", "(II)I"⟩, prog_9_method_79_code, 11, (some .int), 7, [
  [(0, .aload_n 0), (1, .iload_n 1), (2, .iload_n 2), (3, .invokevirtual 300), (6, .istore_n 3), (7, .iconst (-1)), (8, .istore 4), (10, .iconst 0), (11, .istore 5), (13, .iconst 0), (14, .istore 6)],
  [(16, .iload 6), (18, .bipush 24), (20, .if_icmp .ge 168), (23, .iconst 0), (24, .istore 7), (26, .iconst 0), (27, .istore 8), (29, .iload 8), (31, .bipush 10)],
  [(33, .if_icmp .ge 101), (36, .iconst 0), (37, .istore 9), (39, .iconst 0), (40, .istore 10), (42, .iload 10), (44, .bipush 10), (46, .if_icmp .ge 66)],
  [(49, .iload 9), (51, .iload_n 3), (52, .iload 8), (54, .invokestatic 204), (57, .ifCond .eq 45), (60, .iload_n 3), (61, .iload 10), (63, .invokestatic 204)],
  [(66, .ifCond .eq 36), (69, .aload_n 0), (70, .getfield 94), (73, .bipush 24), (75, .iload 8), (77, .imul), (78, .iload 6)],
  [(80, .iadd), (81, .iaload), (82, .aload_n 0), (83, .getfield 94), (86, .bipush 24), (88, .iload 10), (90, .imul), (91, .iload 6), (93, .iadd), (94, .iaload), (95, .if_icmp .ne 7)],
  [(98, .iconst 1), (99, .goto 4), (102, .iconst 0), (103, .iadd), (104, .istore 9), (106, .iinc 10 1), (109, .goto (-67))],
  [(112, .iload 9), (114, .iload 7), (116, .if_icmp .le 8), (119, .iload 9), (121, .goto 5), (124, .iload 7), (126, .istore 7)],
  [(128, .iinc 8 1), (131, .goto (-102)), (134, .iload 4), (136, .iconst (-1)), (137, .if_icmp .eq 10), (140, .iload 7), (142, .iload 5)],
  [(144, .if_icmp .ge 7), (147, .iconst 1), (148, .goto 4), (151, .iconst 0), (152, .istore 8), (154, .iload 8), (156, .ifCond .eq 8), (159, .iload 6)],
  [(161, .goto 5), (164, .iload 4), (166, .istore 4), (168, .iload 8), (170, .ifCond .eq 8), (173, .iload 7), (175, .goto 5)],
  [(178, .iload 5), (180, .istore 5), (182, .iinc 6 1), (185, .goto (-169)), (188, .iload 4), (190, .ireturn)]])
theorem mok_R_askOf : MOK me_R_askOf 2 := ⟨List.mem_of_getElem? (i := 1159) (by decide +kernel), List.mem_of_getElem? (i := 8) (by decide +kernel), by decide +kernel, by decide +kernel, rfl⟩
def me_R_ask : MI := (⟨"BoatNamesModel", "ask", "(II)I"⟩, prog_9_method_80_code, 3, (some .int), 7, [
  [(0, .iload_n 1), (1, .iload_n 2), (2, .invokestatic 156), (5, .ifCond .eq 12), (8, .aload_n 0), (9, .iload_n 1), (10, .iload_n 2), (11, .invokevirtual 303), (14, .goto 5)],
  [(17, .bipush (-2)), (19, .ireturn)]])
theorem mok_R_ask : MOK me_R_ask 2 := ⟨List.mem_of_getElem? (i := 1155) (by decide +kernel), List.mem_of_getElem? (i := 8) (by decide +kernel), by decide +kernel, by decide +kernel, rfl⟩
def me_R_chanceOf : MI := (⟨"BoatNamesModel", "chanceOf", "(III)J"⟩, prog_9_method_81_code, 10, (some .long), 7, [
  [(0, .aload_n 0), (1, .invokevirtual 220), (4, .lconst 0), (5, .lstore 4), (7, .iconst 0), (8, .istore 6), (10, .iload 6), (12, .iconst 1), (13, .aload_n 0), (14, .getfield 169)],
  [(17, .ishl), (18, .if_icmp .ge 93), (21, .lconst 1), (22, .lstore 7), (24, .iconst 0), (25, .istore 9), (27, .iload 9), (29, .aload_n 0), (30, .getfield 169)],
  [(33, .if_icmp .ge 34), (36, .lload 7), (38, .iload 6), (40, .iload 9), (42, .invokestatic 204), (45, .ifCond .eq 11)],
  [(48, .bipush 16), (50, .iload_n 1), (51, .isub), (52, .i2l), (53, .goto 5), (56, .iload_n 1), (57, .i2l), (58, .lmul), (59, .lstore 7), (61, .iinc 9 1)],
  [(64, .goto (-37)), (67, .lload 7), (69, .lconst 0), (70, .lcmp), (71, .ifCond .le 34), (74, .aload_n 0), (75, .iload 6), (77, .putfield 185)],
  [(80, .aload_n 0), (81, .invokevirtual 223), (84, .lload 4), (86, .aload_n 0), (87, .getfield 55), (90, .iload_n 2), (91, .iaload), (92, .iconst 2), (93, .if_icmp .ne 8)],
  [(96, .lload 7), (98, .goto 4), (101, .lconst 0), (102, .ladd), (103, .lstore 4), (105, .iinc 6 1), (108, .goto (-98)), (111, .lload 4)],
  [(113, .lconst 1), (114, .iconst 4), (115, .aload_n 0), (116, .getfield 169), (119, .imul), (120, .lshl), (121, .iload_n 3), (122, .invokestatic 306), (125, .lreturn)]])
theorem mok_R_chanceOf : MOK me_R_chanceOf 3 := ⟨List.mem_of_getElem? (i := 1167) (by decide +kernel), List.mem_of_getElem? (i := 8) (by decide +kernel), by decide +kernel, by decide +kernel, rfl⟩
def me_R_chance : MI := (⟨"BoatNamesModel", "chance", "(III)J"⟩, prog_9_method_82_code, 4, (some .long), 7, [
  [(0, .iload_n 1), (1, .iconst 0), (2, .bipush 16), (4, .invokestatic 115), (7, .ifCond .eq 28), (10, .aload_n 0), (11, .iload_n 2), (12, .invokevirtual 163), (15, .ifCond .eq 20)],
  [(18, .iload_n 3), (19, .invokestatic 241), (22, .ifCond .eq 13), (25, .aload_n 0), (26, .iload_n 1), (27, .iload_n 2), (28, .iload_n 3), (29, .invokevirtual 310)],
  [(32, .goto 8), (35, .bipush (-2)), (37, .invokestatic 314), (40, .lreturn)]])
theorem mok_R_chance : MOK me_R_chance 3 := ⟨List.mem_of_getElem? (i := 1163) (by decide +kernel), List.mem_of_getElem? (i := 8) (by decide +kernel), by decide +kernel, by decide +kernel, rfl⟩
def me_R_decadesOf : MI := (⟨"BoatNamesModel", "decadesOf", "(III)I"⟩, prog_9_method_83_code, 6, (some .int), 7, [
  [(0, .aload_n 0), (1, .invokevirtual 220), (4, .iload_n 1), (5, .istore 4), (7, .aload_n 0), (8, .aload_n 0), (9, .getfield 137), (12, .ifCond .ne 7), (15, .iconst 0)],
  [(16, .goto 4), (19, .iload_n 2), (20, .putfield 182), (23, .iconst 0), (24, .istore 5), (26, .iload 5), (28, .aload_n 0), (29, .getfield 182)],
  [(32, .if_icmp .ge 91), (35, .ldc_w 318), (38, .iload 4), (40, .imul), (41, .sipush 12345), (44, .iadd), (45, .istore 4), (47, .aload_n 0)],
  [(48, .getfield 43), (51, .iload 5), (53, .iload 4), (55, .bipush 16), (57, .iushr), (58, .iconst 3), (59, .irem), (60, .iastore), (61, .ldc_w 318)],
  [(64, .iload 4), (66, .imul), (67, .sipush 12345), (70, .iadd), (71, .istore 4), (73, .aload_n 0), (74, .getfield 46), (77, .iload 5), (79, .iload 4)],
  [(81, .bipush 16), (83, .iushr), (84, .bipush 24), (86, .irem), (87, .iastore), (88, .ldc_w 318), (91, .iload 4), (93, .imul), (94, .sipush 12345)],
  [(97, .iadd), (98, .istore 4), (100, .aload_n 0), (101, .getfield 49), (104, .iload 5), (106, .iload 4), (108, .bipush 16), (110, .iushr), (111, .aload_n 0)],
  [(112, .getfield 137), (115, .irem), (116, .iastore), (117, .iinc 5 1), (120, .goto (-94)), (123, .aload_n 0), (124, .invokevirtual 223), (127, .aload_n 0)],
  [(128, .bipush 23), (130, .iload_n 3), (131, .ifCond .ne 7), (134, .iconst 2), (135, .goto 4), (138, .iconst 1), (139, .invokevirtual 235), (142, .ireturn)]])
theorem mok_R_decadesOf : MOK me_R_decadesOf 3 := ⟨List.mem_of_getElem? (i := 1182) (by decide +kernel), List.mem_of_getElem? (i := 8) (by decide +kernel), by decide +kernel, by decide +kernel, rfl⟩
def me_R_decades : MI := (⟨"BoatNamesModel", "decades", "(III)I"⟩, prog_9_method_84_code, 4, (some .int), 7, [
  [(0, .iload_n 2), (1, .iconst 0), (2, .bipush 8), (4, .invokestatic 115), (7, .ifCond .eq 20), (10, .iload_n 3), (11, .invokestatic 241), (14, .ifCond .eq 13)],
  [(17, .aload_n 0), (18, .iload_n 1), (19, .iload_n 2), (20, .iload_n 3), (21, .invokevirtual 319), (24, .goto 5), (27, .bipush (-2)), (29, .ireturn)]])
theorem mok_R_decades : MOK me_R_decades 3 := ⟨List.mem_of_getElem? (i := 1178) (by decide +kernel), List.mem_of_getElem? (i := 8) (by decide +kernel), by decide +kernel, by decide +kernel, rfl⟩
def me_R_meets : MI := (⟨"BoatNamesModel", "meets", "(I)I"⟩, prog_9_method_85_code, 2, (some .int), 7, [
  [(0, .aload_n 0), (1, .iload_n 1), (2, .putfield 322), (5, .bipush (-10)), (7, .iload_n 1), (8, .isub), (9, .ireturn)]])
theorem mok_R_meets : MOK me_R_meets 1 := ⟨List.mem_of_getElem? (i := 948) (by decide +kernel), List.mem_of_getElem? (i := 8) (by decide +kernel), by decide +kernel, by decide +kernel, rfl⟩
def me_R_isSheet : MI := (⟨"BoatNamesModel", "isSheet", "(I)Z"⟩, prog_9_method_86_code, 1, (some .boolean), 7, [
  [(0, .iload_n 0), (1, .iconst 0), (2, .iconst 3), (3, .invokestatic 115), (6, .ireturn)]])
theorem mok_R_isSheet : MOK me_R_isSheet 1 := ⟨List.mem_of_getElem? (i := 944) (by decide +kernel), List.mem_of_getElem? (i := 8) (by decide +kernel), by decide +kernel, by decide +kernel, rfl⟩
def me_R_sheet : MI := (⟨"BoatNamesModel", "sheet", "(III)I"⟩, prog_9_method_87_code, 5, (some .int), 7, [
  [(0, .iload_n 1), (1, .invokestatic 172), (4, .ifCond .eq 18), (7, .iload_n 2), (8, .iconst 0), (9, .iconst 2), (10, .invokestatic 115), (13, .ifCond .eq 9)],
  [(16, .iload_n 3), (17, .bipush 60), (19, .if_icmp .le 6), (22, .bipush (-2)), (24, .ireturn), (25, .iload_n 3), (26, .ifCond .ge 9), (29, .aload_n 0), (30, .iconst 5), (31, .invokevirtual 175)],
  [(34, .ireturn), (35, .aload_n 0), (36, .getfield 97), (39, .iload_n 1), (40, .iconst 1), (41, .bastore), (42, .aload_n 0), (43, .getfield 101), (46, .iload_n 1), (47, .iload_n 2)],
  [(48, .iastore), (49, .aload_n 0), (50, .getfield 104), (53, .iload_n 1), (54, .iload_n 3), (55, .iastore), (56, .iconst 0), (57, .istore 4), (59, .iload 4), (61, .bipush 60), (63, .if_icmp .ge 22)],
  [(66, .aload_n 0), (67, .getfield 107), (70, .bipush 60), (72, .iload_n 1), (73, .imul), (74, .iload 4), (76, .iadd), (77, .iconst 0), (78, .iastore), (79, .iinc 4 1)],
  [(82, .goto (-23)), (85, .iload_n 3), (86, .ireturn)]])
theorem mok_R_sheet : MOK me_R_sheet 3 := ⟨List.mem_of_getElem? (i := 1187) (by decide +kernel), List.mem_of_getElem? (i := 8) (by decide +kernel), by decide +kernel, by decide +kernel, rfl⟩
def me_R_lose : MI := (⟨"BoatNamesModel", "lose", "(I)I"⟩, prog_9_method_88_code, 2, (some .int), 7, [
  [(0, .iload_n 1), (1, .invokestatic 172), (4, .ifCond .ne 6), (7, .bipush (-2)), (9, .ireturn), (10, .aload_n 0), (11, .getfield 97), (14, .iload_n 1), (15, .baload)],
  [(16, .ifCond .ne 9), (19, .aload_n 0), (20, .iconst 1), (21, .invokevirtual 175), (24, .ireturn), (25, .aload_n 0), (26, .getfield 97), (29, .iload_n 1), (30, .iconst 0), (31, .bastore)],
  [(32, .aload_n 0), (33, .getfield 104), (36, .iload_n 1), (37, .iaload), (38, .ireturn)]])
theorem mok_R_lose : MOK me_R_lose 1 := ⟨List.mem_of_getElem? (i := 1191) (by decide +kernel), List.mem_of_getElem? (i := 8) (by decide +kernel), by decide +kernel, by decide +kernel, rfl⟩
def me_R_lacks : MI := (⟨"BoatNamesModel", "lacks", "(III)I"⟩, prog_9_method_89_code, 4, (some .int), 7, [
  [(0, .aload_n 0), (1, .getfield 97), (4, .iload_n 1), (5, .baload), (6, .ifCond .ne 7), (9, .iconst 1), (10, .goto 38), (13, .aload_n 0), (14, .getfield 101)],
  [(17, .iload_n 1), (18, .iaload), (19, .iload_n 2), (20, .if_icmp .eq 7), (23, .iconst 3), (24, .goto 24), (27, .iload_n 3), (28, .iconst 0), (29, .aload_n 0), (30, .getfield 104)],
  [(33, .iload_n 1), (34, .iaload), (35, .iconst 1), (36, .isub), (37, .invokestatic 115), (40, .ifCond .eq 7), (43, .iconst 0), (44, .goto 4), (47, .iconst 2)],
  [(48, .ireturn)]])
theorem mok_R_lacks : MOK me_R_lacks 3 := ⟨List.mem_of_getElem? (i := 1199) (by decide +kernel), List.mem_of_getElem? (i := 8) (by decide +kernel), by decide +kernel, by decide +kernel, rfl⟩
def me_R_keep : MI := (⟨"BoatNamesModel", "keep", "(III)V"⟩, prog_9_method_90_code, 4, none, 7, [
  [(0, .aload_n 0), (1, .getfield 107), (4, .bipush 60), (6, .iload_n 1), (7, .imul), (8, .iload_n 2), (9, .iadd), (10, .aload_n 0), (11, .getfield 101), (14, .iload_n 1), (15, .iaload)],
  [(16, .ifCond .ne 8), (19, .iload_n 3), (20, .i2b), (21, .goto 19), (24, .aload_n 0), (25, .getfield 101), (28, .iload_n 1), (29, .iaload), (30, .iconst 1), (31, .if_icmp .ne 8)],
  [(34, .iload_n 3), (35, .i2s), (36, .goto 4), (39, .iload_n 3), (40, .iastore), (41, .return_)]])
theorem mok_R_keep : MOK me_R_keep 3 := ⟨List.mem_of_getElem? (i := 1203) (by decide +kernel), List.mem_of_getElem? (i := 8) (by decide +kernel), by decide +kernel, by decide +kernel, rfl⟩
def me_R_put : MI := (⟨"BoatNamesModel", "put", "(IIII)I"⟩, prog_9_method_91_code, 6, (some .int), 7, [
  [(0, .iload_n 1), (1, .invokestatic 172), (4, .ifCond .eq 12), (7, .iload_n 2), (8, .iconst 0), (9, .iconst 2), (10, .invokestatic 115), (13, .ifCond .ne 6)],
  [(16, .bipush (-2)), (18, .ireturn), (19, .aload_n 0), (20, .iload_n 1), (21, .iload_n 2), (22, .iload_n 3), (23, .invokevirtual 325), (26, .istore 5), (28, .iload 5), (30, .ifCond .le 10)],
  [(33, .aload_n 0), (34, .iload 5), (36, .invokevirtual 175), (39, .ireturn), (40, .aload_n 0), (41, .iload_n 1), (42, .iload_n 3), (43, .iload 4), (45, .invokevirtual 328)],
  [(48, .iconst 1), (49, .ireturn)]])
theorem mok_R_put : MOK me_R_put 4 := ⟨List.mem_of_getElem? (i := 1195) (by decide +kernel), List.mem_of_getElem? (i := 8) (by decide +kernel), by decide +kernel, by decide +kernel, rfl⟩
def me_R_get : MI := (⟨"BoatNamesModel", "get", "(III)I"⟩, prog_9_method_92_code, 5, (some .int), 7, [
  [(0, .iload_n 1), (1, .invokestatic 172), (4, .ifCond .eq 12), (7, .iload_n 2), (8, .iconst 0), (9, .iconst 2), (10, .invokestatic 115), (13, .ifCond .ne 7)],
  [(16, .ldc_w 332), (19, .ireturn), (20, .aload_n 0), (21, .iload_n 1), (22, .iload_n 2), (23, .iload_n 3), (24, .invokevirtual 325), (27, .istore 4), (29, .iload 4), (31, .ifCond .le 13)],
  [(34, .aload_n 0), (35, .iload 4), (37, .putfield 322), (40, .ldc_w 332), (43, .ireturn), (44, .aload_n 0), (45, .getfield 107)],
  [(48, .bipush 60), (50, .iload_n 1), (51, .imul), (52, .iload_n 3), (53, .iadd), (54, .iaload), (55, .ireturn)]])
theorem mok_R_get : MOK me_R_get 3 := ⟨List.mem_of_getElem? (i := 1207) (by decide +kernel), List.mem_of_getElem? (i := 8) (by decide +kernel), by decide +kernel, by decide +kernel, rfl⟩
def me_R_copy : MI := (⟨"BoatNamesModel", "copy", "(IIIII)I"⟩, prog_9_method_93_code, 7, (some .int), 7, [
  [(0, .iload_n 1), (1, .invokestatic 172), (4, .ifCond .eq 10), (7, .iload_n 3), (8, .invokestatic 172), (11, .ifCond .ne 6), (14, .bipush (-2))],
  [(16, .ireturn), (17, .aload_n 0), (18, .getfield 97), (21, .iload_n 1), (22, .baload), (23, .ifCond .eq 12), (26, .aload_n 0), (27, .getfield 97), (30, .iload_n 3), (31, .baload)],
  [(32, .ifCond .ne 9), (35, .aload_n 0), (36, .iconst 1), (37, .invokevirtual 175), (40, .ireturn), (41, .aload_n 0), (42, .getfield 101), (45, .iload_n 1), (46, .iaload), (47, .aload_n 0)],
  [(48, .getfield 101), (51, .iload_n 3), (52, .iaload), (53, .if_icmp .eq 9), (56, .aload_n 0), (57, .iconst 4), (58, .invokevirtual 175), (61, .ireturn), (62, .iload_n 2), (63, .ifCond .lt 48)],
  [(66, .iload 4), (68, .ifCond .lt 43), (71, .iload 5), (73, .ifCond .lt 38), (76, .iload_n 2), (77, .i2l), (78, .iload 5)],
  [(80, .i2l), (81, .ladd), (82, .aload_n 0), (83, .getfield 104), (86, .iload_n 1), (87, .iaload), (88, .i2l), (89, .lcmp), (90, .ifCond .gt 21), (93, .iload 4), (95, .i2l)],
  [(96, .iload 5), (98, .i2l), (99, .ladd), (100, .aload_n 0), (101, .getfield 104), (104, .iload_n 3), (105, .iaload), (106, .i2l), (107, .lcmp), (108, .ifCond .le 9), (111, .aload_n 0)],
  [(112, .iconst 2), (113, .invokevirtual 175), (116, .ireturn), (117, .iconst 0), (118, .istore 6), (120, .iload 6), (122, .iload 5), (124, .if_icmp .ge 30), (127, .aload_n 0)],
  [(128, .getfield 110), (131, .iload 6), (133, .aload_n 0), (134, .getfield 107), (137, .bipush 60), (139, .iload_n 1), (140, .imul), (141, .iload_n 2), (142, .iadd), (143, .iload 6)],
  [(145, .iadd), (146, .iaload), (147, .iastore), (148, .iinc 6 1), (151, .goto (-31)), (154, .iconst 0), (155, .istore 6), (157, .iload 6), (159, .iload 5)],
  [(161, .if_icmp .ge 31), (164, .aload_n 0), (165, .getfield 107), (168, .bipush 60), (170, .iload_n 3), (171, .imul), (172, .iload 4), (174, .iadd), (175, .iload 6)],
  [(177, .iadd), (178, .aload_n 0), (179, .getfield 110), (182, .iload 6), (184, .iaload), (185, .iastore), (186, .iinc 6 1), (189, .goto (-32))],
  [(192, .iconst 1), (193, .ireturn)]])
theorem mok_R_copy : MOK me_R_copy 5 := ⟨List.mem_of_getElem? (i := 1212) (by decide +kernel), List.mem_of_getElem? (i := 8) (by decide +kernel), by decide +kernel, by decide +kernel, rfl⟩
def me_R_write : MI := (⟨"BoatNamesModel", "write", "(II)I"⟩, prog_9_method_94_code, 4, (some .int), 7, [
  [(0, .aload_n 0), (1, .iload_n 1), (2, .invokevirtual 163), (5, .ifCond .eq 10), (8, .iload_n 2), (9, .invokestatic 172), (12, .ifCond .ne 6), (15, .bipush (-2))],
  [(17, .ireturn), (18, .aload_n 0), (19, .getfield 97), (22, .iload_n 2), (23, .baload), (24, .ifCond .ne 9), (27, .aload_n 0), (28, .iconst 1), (29, .invokevirtual 175)],
  [(32, .ireturn), (33, .aload_n 0), (34, .invokevirtual 226), (37, .iconst 0), (38, .istore_n 3), (39, .iload_n 3), (40, .aload_n 0), (41, .getfield 104), (44, .iload_n 2), (45, .iaload), (46, .if_icmp .ge 32)],
  [(49, .iload_n 3), (50, .bipush 24), (52, .if_icmp .ge 26), (55, .aload_n 0), (56, .iload_n 2), (57, .iload_n 3), (58, .aload_n 0), (59, .getfield 73), (62, .bipush 8)],
  [(64, .iload_n 3), (65, .imul), (66, .iload_n 1), (67, .iadd), (68, .iaload), (69, .invokevirtual 328), (72, .iinc 3 1), (75, .goto (-36)), (78, .iload_n 3), (79, .ireturn)]])
theorem mok_R_write : MOK me_R_write 2 := ⟨List.mem_of_getElem? (i := 1216) (by decide +kernel), List.mem_of_getElem? (i := 8) (by decide +kernel), by decide +kernel, by decide +kernel, rfl⟩
def me_R_sumOf : MI := (⟨"BoatNamesModel", "sumOf", "(I)I"⟩, prog_9_method_95_code, 4, (some .int), 7, [
  [(0, .aload_n 0), (1, .invokevirtual 226), (4, .iconst 0), (5, .istore_n 2), (6, .iconst 0), (7, .istore_n 3), (8, .iload_n 3), (9, .bipush 8), (11, .if_icmp .ge 17), (14, .iload_n 2), (15, .aload_n 0)],
  [(16, .iload_n 3), (17, .invokevirtual 254), (20, .iadd), (21, .istore_n 2), (22, .iinc 3 1), (25, .goto (-17)), (28, .iload_n 1), (29, .ifCond .ne 10)],
  [(32, .aload_n 0), (33, .getfield 133), (36, .goto 31), (39, .iload_n 1), (40, .iconst 1), (41, .if_icmp .ne 10), (44, .aload_n 0), (45, .getfield 137)],
  [(48, .goto 19), (51, .iload_n 1), (52, .iconst 5), (53, .if_icmp .ne 13), (56, .aload_n 0), (57, .bipush 23), (59, .iconst 2), (60, .invokevirtual 235), (63, .goto 4)],
  [(66, .iload_n 2), (67, .ireturn)]])
theorem mok_R_sumOf : MOK me_R_sumOf 1 := ⟨List.mem_of_getElem? (i := 1224) (by decide +kernel), List.mem_of_getElem? (i := 8) (by decide +kernel), by decide +kernel, by decide +kernel, rfl⟩
def me_R_count : MI := (⟨"BoatNamesModel", "count", "(I)I"⟩, prog_9_method_96_code, 2, (some .int), 7, [
  [(0, .iload_n 1), (1, .tableswitch 81 0 8 #[51, 51, 57, 57, 66, 51, 51, 71, 76])],
  [],
  [],
  [(52, .aload_n 0), (53, .iload_n 1), (54, .invokevirtual 333), (57, .ireturn), (58, .aload_n 0), (59, .getfield 7), (62, .iload_n 1), (63, .iconst 2)],
  [(64, .isub), (65, .iaload), (66, .ireturn), (67, .aload_n 0), (68, .getfield 169), (71, .ireturn), (72, .aload_n 0), (73, .getfield 284), (76, .ireturn), (77, .aload_n 0), (78, .getfield 322)],
  [(81, .ireturn), (82, .bipush (-2)), (84, .ireturn)]])
theorem mok_R_count : MOK me_R_count 1 := ⟨List.mem_of_getElem? (i := 1220) (by decide +kernel), List.mem_of_getElem? (i := 8) (by decide +kernel), by decide +kernel, by decide +kernel, rfl⟩
def me_R_weekDigest : MI := (⟨"BoatNamesModel", "weekDigest", "(JII)J"⟩, prog_9_method_97_code, 8, (some .long), 7, [
  [(0, .lload_n 1), (1, .lstore 5), (3, .iconst 0), (4, .istore 7), (6, .iload 7), (8, .iconst 4), (9, .if_icmp .ge 28), (12, .ldc2_w 336), (15, .lload 5)],
  [(17, .lmul), (18, .aload_n 0), (19, .iload_n 3), (20, .iload 4), (22, .iload 7), (24, .invokevirtual 232), (27, .i2l), (28, .ladd), (29, .lstore 5), (31, .iinc 7 1)],
  [(34, .goto (-28)), (37, .lload 5), (39, .lreturn)]])
theorem mok_R_weekDigest : MOK me_R_weekDigest 3 := ⟨List.mem_of_getElem? (i := 1239) (by decide +kernel), List.mem_of_getElem? (i := 8) (by decide +kernel), by decide +kernel, by decide +kernel, rfl⟩
def me_R_boatDigest : MI := (⟨"BoatNamesModel", "boatDigest", "(JI)J"⟩, prog_9_method_98_code, 7, (some .long), 7, [
  [(0, .lload_n 1), (1, .lstore 4), (3, .iconst 0), (4, .istore 6), (6, .iload 6), (8, .iconst 4), (9, .if_icmp .ge 26), (12, .ldc2_w 336), (15, .lload 4)],
  [(17, .lmul), (18, .aload_n 0), (19, .iload_n 3), (20, .iload 6), (22, .invokevirtual 166), (25, .i2l), (26, .ladd), (27, .lstore 4), (29, .iinc 6 1)],
  [(32, .goto (-26)), (35, .aload_n 0), (36, .lload 4), (38, .iconst 0), (39, .iload_n 3), (40, .invokevirtual 338), (43, .lstore 4), (45, .aload_n 0), (46, .lload 4)],
  [(48, .bipush 7), (50, .iload_n 3), (51, .invokevirtual 338), (54, .lstore 4), (56, .aload_n 0), (57, .lload 4), (59, .bipush 15), (61, .iload_n 3), (62, .invokevirtual 338)],
  [(65, .lstore 4), (67, .aload_n 0), (68, .lload 4), (70, .bipush 23), (72, .iload_n 3), (73, .invokevirtual 338), (76, .lstore 4), (78, .ldc2_w 336)],
  [(81, .lload 4), (83, .lmul), (84, .aload_n 0), (85, .iload_n 3), (86, .invokevirtual 263), (89, .i2l), (90, .ladd), (91, .lstore 4), (93, .ldc2_w 336)],
  [(96, .lload 4), (98, .lmul), (99, .aload_n 0), (100, .iload_n 3), (101, .iconst 0), (102, .invokevirtual 266), (105, .i2l), (106, .ladd), (107, .lstore 4), (109, .ldc2_w 336)],
  [(112, .lload 4), (114, .lmul), (115, .aload_n 0), (116, .iload_n 3), (117, .iconst 1), (118, .invokevirtual 266), (121, .i2l), (122, .ladd), (123, .lstore 4), (125, .ldc2_w 336)],
  [(128, .lload 4), (130, .lmul), (131, .aload_n 0), (132, .iload_n 3), (133, .iconst 0), (134, .invokevirtual 269), (137, .i2l), (138, .ladd), (139, .lstore 4), (141, .ldc2_w 336)],
  [(144, .lload 4), (146, .lmul), (147, .aload_n 0), (148, .iload_n 3), (149, .iconst 1), (150, .invokevirtual 269), (153, .i2l), (154, .ladd), (155, .lstore 4), (157, .ldc2_w 336)],
  [(160, .lload 4), (162, .lmul), (163, .aload_n 0), (164, .iload_n 3), (165, .iconst 0), (166, .invokevirtual 272), (169, .i2l), (170, .ladd), (171, .lstore 4), (173, .ldc2_w 336)],
  [(176, .lload 4), (178, .lmul), (179, .aload_n 0), (180, .iload_n 3), (181, .iconst 1), (182, .invokevirtual 272), (185, .i2l), (186, .ladd), (187, .lstore 4), (189, .ldc2_w 336)],
  [(192, .lload 4), (194, .lmul), (195, .aload_n 0), (196, .iload_n 3), (197, .invokevirtual 294), (200, .i2l), (201, .ladd), (202, .lstore 4), (204, .ldc2_w 336), (207, .lload 4)],
  [(209, .lmul), (210, .aload_n 0), (211, .iconst 5), (212, .iload_n 3), (213, .iconst 0), (214, .invokevirtual 310), (217, .ladd), (218, .lstore 4), (220, .ldc2_w 336), (223, .lload 4)],
  [(225, .lmul), (226, .aload_n 0), (227, .iconst 5), (228, .iload_n 3), (229, .iconst 1), (230, .invokevirtual 310), (233, .ladd), (234, .lreturn)]])
theorem mok_R_boatDigest : MOK me_R_boatDigest 2 := ⟨List.mem_of_getElem? (i := 1235) (by decide +kernel), List.mem_of_getElem? (i := 8) (by decide +kernel), by decide +kernel, by decide +kernel, rfl⟩
def me_R_personDigest : MI := (⟨"BoatNamesModel", "personDigest", "(JI)J"⟩, prog_9_method_99_code, 7, (some .long), 7, [
  [(0, .iload_n 3), (1, .iconst 1), (2, .iadd), (3, .bipush 8), (5, .irem), (6, .istore 4), (8, .ldc2_w 336), (11, .lload_n 1), (12, .lmul), (13, .aload_n 0), (14, .iload_n 3), (15, .iconst 0)],
  [(16, .invokevirtual 244), (19, .i2l), (20, .ladd), (21, .lstore 5), (23, .ldc2_w 336), (26, .lload 5), (28, .lmul), (29, .aload_n 0), (30, .iload_n 3), (31, .iconst 1)],
  [(32, .invokevirtual 244), (35, .i2l), (36, .ladd), (37, .lstore 5), (39, .ldc2_w 336), (42, .lload 5), (44, .lmul), (45, .aload_n 0), (46, .bipush 23)],
  [(48, .iload_n 3), (49, .iload 4), (51, .invokevirtual 229), (54, .i2l), (55, .ladd), (56, .lstore 5), (58, .ldc2_w 336), (61, .lload 5), (63, .lmul)],
  [(64, .aload_n 0), (65, .iload_n 3), (66, .iload 4), (68, .invokevirtual 300), (71, .i2l), (72, .ladd), (73, .lstore 5), (75, .ldc2_w 336), (78, .lload 5)],
  [(80, .lmul), (81, .aload_n 0), (82, .iload_n 3), (83, .iload 4), (85, .invokevirtual 303), (88, .i2l), (89, .ladd), (90, .lreturn)]])
theorem mok_R_personDigest : MOK me_R_personDigest 2 := ⟨List.mem_of_getElem? (i := 1243) (by decide +kernel), List.mem_of_getElem? (i := 8) (by decide +kernel), by decide +kernel, by decide +kernel, rfl⟩
def me_R_digest : MI := (⟨"BoatNamesModel", "digest", "()J"⟩, prog_9_method_100_code, 4, (some .long), 7, [
  [(0, .ldc2_w 342), (3, .lstore_n 1), (4, .iconst 0), (5, .istore_n 3), (6, .iload_n 3), (7, .bipush 8), (9, .if_icmp .ge 22), (12, .ldc2_w 336), (15, .lload_n 1)],
  [(16, .lmul), (17, .aload_n 0), (18, .iload_n 3), (19, .invokevirtual 344), (22, .i2l), (23, .ladd), (24, .lstore_n 1), (25, .iinc 3 1), (28, .goto (-22)), (31, .ldc2_w 336)],
  [(34, .lload_n 1), (35, .lmul), (36, .aload_n 0), (37, .iconst 0), (38, .invokevirtual 150), (41, .i2l), (42, .ladd), (43, .lstore_n 1), (44, .ldc2_w 336), (47, .lload_n 1)],
  [(48, .lmul), (49, .aload_n 0), (50, .iconst 1), (51, .invokevirtual 150), (54, .i2l), (55, .ladd), (56, .lstore_n 1), (57, .iconst 0), (58, .istore_n 3), (59, .iload_n 3), (60, .aload_n 0), (61, .getfield 137)],
  [(64, .if_icmp .ge 16), (67, .aload_n 0), (68, .lload_n 1), (69, .iload_n 3), (70, .invokevirtual 347), (73, .lstore_n 1), (74, .iinc 3 1), (77, .goto (-18))],
  [(80, .iconst 0), (81, .istore_n 3), (82, .iload_n 3), (83, .bipush 8), (85, .if_icmp .ge 16), (88, .aload_n 0), (89, .lload_n 1), (90, .iload_n 3), (91, .invokevirtual 351), (94, .lstore_n 1), (95, .iinc 3 1)],
  [(98, .goto (-16)), (101, .iconst 0), (102, .istore_n 3), (103, .iload_n 3), (104, .bipush 24), (106, .if_icmp .ge 22), (109, .ldc2_w 336)],
  [(112, .lload_n 1), (113, .lmul), (114, .aload_n 0), (115, .iload_n 3), (116, .invokevirtual 238), (119, .i2l), (120, .ladd), (121, .lstore_n 1), (122, .iinc 3 1), (125, .goto (-22))],
  [(128, .ldc2_w 336), (131, .lload_n 1), (132, .lmul), (133, .aload_n 0), (134, .iconst 0), (135, .invokevirtual 247), (138, .i2l), (139, .ladd), (140, .lstore_n 1), (141, .ldc2_w 336)],
  [(144, .lload_n 1), (145, .lmul), (146, .aload_n 0), (147, .iconst 1), (148, .invokevirtual 247), (151, .i2l), (152, .ladd), (153, .lstore_n 1), (154, .ldc2_w 336), (157, .lload_n 1), (158, .lmul), (159, .aload_n 0)],
  [(160, .invokevirtual 250), (163, .i2l), (164, .ladd), (165, .lstore_n 1), (166, .ldc2_w 336), (169, .lload_n 1), (170, .lmul), (171, .aload_n 0), (172, .invokevirtual 257), (175, .i2l)],
  [(176, .ladd), (177, .lstore_n 1), (178, .aload_n 0), (179, .invokevirtual 278), (182, .istore_n 3), (183, .ldc2_w 336), (186, .lload_n 1), (187, .lmul), (188, .iload_n 3), (189, .i2l), (190, .ladd), (191, .lstore_n 1)],
  [(192, .ldc2_w 336), (195, .lload_n 1), (196, .lmul), (197, .aload_n 0), (198, .iload_n 3), (199, .iconst 0), (200, .invokevirtual 281), (203, .i2l), (204, .ladd), (205, .lstore_n 1), (206, .ldc2_w 336)],
  [(209, .lload_n 1), (210, .lmul), (211, .aload_n 0), (212, .invokevirtual 291), (215, .i2l), (216, .ladd), (217, .lstore_n 1), (218, .ldc2_w 336), (221, .lload_n 1), (222, .lmul), (223, .aload_n 0)],
  [(224, .bipush 7), (226, .bipush 6), (228, .iconst 0), (229, .invokevirtual 319), (232, .i2l), (233, .ladd), (234, .lstore_n 1), (235, .ldc2_w 336), (238, .lload_n 1), (239, .lmul)],
  [(240, .aload_n 0), (241, .bipush 7), (243, .bipush 6), (245, .iconst 1), (246, .invokevirtual 319), (249, .i2l), (250, .ladd), (251, .lreturn)]])
theorem mok_R_digest : MOK me_R_digest 0 := ⟨List.mem_of_getElem? (i := 1228) (by decide +kernel), List.mem_of_getElem? (i := 8) (by decide +kernel), by decide +kernel, by decide +kernel, rfl⟩
def me_J_bitCount : MI := (⟨"java/lang/Integer", "bitCount", "(I)I"⟩, prog_10_method_49_code, 1, (some .int), 9, [
  [(0, .iload_n 0), (1, .iload_n 0), (2, .iconst 1), (3, .iushr), (4, .ldc_w 265), (7, .iand), (8, .isub), (9, .istore_n 0), (10, .iload_n 0), (11, .ldc_w 266), (14, .iand), (15, .iload_n 0)],
  [(16, .iconst 2), (17, .iushr), (18, .ldc_w 266), (21, .iand), (22, .iadd), (23, .istore_n 0), (24, .iload_n 0), (25, .iload_n 0), (26, .iconst 4), (27, .iushr), (28, .iadd), (29, .ldc_w 267)],
  [(32, .iand), (33, .istore_n 0), (34, .iload_n 0), (35, .iload_n 0), (36, .bipush 8), (38, .iushr), (39, .iadd), (40, .istore_n 0), (41, .iload_n 0), (42, .iload_n 0), (43, .bipush 16), (45, .iushr), (46, .iadd), (47, .istore_n 0)],
  [(48, .iload_n 0), (49, .bipush 63), (51, .iand), (52, .ireturn)]])
theorem mok_J_bitCount : MOK me_J_bitCount 1 := ⟨List.mem_of_getElem? (i := 513) (by decide +kernel), List.mem_of_getElem? (i := 12) (by decide +kernel), by decide +kernel, by decide +kernel, rfl⟩
def me_J_fillj : MI := (⟨"java/util/Arrays", "fill", "([JJ)V"⟩, prog_13_method_101_code, 5, none, 11, [
  [(0, .iconst 0), (1, .istore_n 3), (2, .aload_n 0), (3, .arraylength), (4, .istore 4), (6, .iload_n 3), (7, .iload 4), (9, .if_icmp .ge 13), (12, .aload_n 0), (13, .iload_n 3), (14, .lload_n 1), (15, .lastore)],
  [(16, .iinc 3 1), (19, .goto (-13)), (22, .return_)]])
theorem mok_J_fillj : MOK me_J_fillj 2 := ⟨List.mem_of_getElem? (i := 593) (by decide +kernel), List.mem_of_getElem? (i := 9) (by decide +kernel), by decide +kernel, by decide +kernel, rfl⟩
def me_J_filli : MI := (⟨"java/util/Arrays", "fill", "([II)V"⟩, prog_13_method_103_code, 4, none, 11, [
  [(0, .iconst 0), (1, .istore_n 2), (2, .aload_n 0), (3, .arraylength), (4, .istore_n 3), (5, .iload_n 2), (6, .iload_n 3), (7, .if_icmp .ge 13), (10, .aload_n 0), (11, .iload_n 2), (12, .iload_n 1), (13, .iastore), (14, .iinc 2 1)],
  [(17, .goto (-12)), (20, .return_)]])
theorem mok_J_filli : MOK me_J_filli 2 := ⟨List.mem_of_getElem? (i := 296) (by decide +kernel), List.mem_of_getElem? (i := 9) (by decide +kernel), by decide +kernel, by decide +kernel, rfl⟩

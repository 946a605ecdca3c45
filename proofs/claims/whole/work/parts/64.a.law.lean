/-! the law: its bytes, 1 -/
def rck (r : List (Nat × Instr)) : Bool := r.all fun e => match decode code e.1 with
  | .ok (i, n) => decide (i = e.2) && (decide (ilen e.2 = n) || decide (ilen e.2 = 0))
  | _ => false
theorem rck_c {r : List (Nat × Instr)} {l : List (List (Nat × Instr))} (h : rck r = true) (h2 : l.all rck = true) : (r :: l).all rck = true := by
  rw [List.all_cons, h, h2]
  rfl
theorem rck_0 : rck [(0, .new 7), (3, .dup), (4, .invokespecial 9), (7, .astore_n 1), (8, .new 10), (11, .dup), (12, .invokespecial 12), (15, .astore_n 2)] = true := by decide +kernel
theorem rck_1 : rck [(16, .iconst 0), (17, .istore_n 3), (18, .iload_n 3), (19, .aload_n 0), (20, .arraylength), (21, .bipush 6), (23, .isub), (24, .if_icmp .gt 1301), (27, .aload_n 0), (28, .iload_n 3), (29, .iaload), (30, .bipush 63)] = true := by decide +kernel
theorem rck_2 : rck [(32, .iand), (33, .tableswitch 1286 0 36 #[163, 196, 219, 242, 265, 298, 331, 374, 387, 410, 453, 496, 519, 552, 575, 588, 601, 624, 657, 690, 723, 746, 789, 802, 815, 838, 871, 904, 948, 991, 1034, 1057, 1110, 1153, 1216, 1249, 1272])] = true := by decide +kernel
theorem rck_3 : rck [] = true := by decide +kernel
theorem rck_4 : rck [] = true := by decide +kernel
theorem rck_5 : rck [] = true := by decide +kernel
theorem rck_6 : rck [] = true := by decide +kernel
theorem rck_7 : rck [] = true := by decide +kernel
theorem rck_8 : rck [] = true := by decide +kernel
theorem rck_9 : rck [] = true := by decide +kernel
theorem rck_10 : rck [] = true := by decide +kernel
theorem rck_11 : rck [] = true := by decide +kernel
theorem rck_12 : rck [(196, .aload_n 1), (197, .aload_n 0), (198, .iload_n 3), (199, .iconst 1), (200, .iadd), (201, .iaload), (202, .aload_n 0), (203, .iload_n 3), (204, .iconst 2), (205, .iadd), (206, .iaload), (207, .invokevirtual 13)] = true := by decide +kernel
theorem rck_13 : rck [(210, .aload_n 2), (211, .aload_n 0), (212, .iload_n 3), (213, .iconst 1), (214, .iadd), (215, .iaload), (216, .aload_n 0), (217, .iload_n 3), (218, .iconst 2), (219, .iadd), (220, .iaload), (221, .invokevirtual 17)] = true := by decide +kernel
theorem rck_14 : rck [(224, .if_icmp .eq 1095), (227, .iconst 0), (228, .ireturn), (229, .aload_n 1), (230, .aload_n 0), (231, .iload_n 3), (232, .iconst 1), (233, .iadd), (234, .iaload), (235, .invokevirtual 18), (238, .aload_n 2), (239, .aload_n 0)] = true := by decide +kernel
theorem rck_15 : rck [(240, .iload_n 3), (241, .iconst 1), (242, .iadd), (243, .iaload), (244, .invokevirtual 22), (247, .if_icmp .eq 1072), (250, .iconst 0), (251, .ireturn), (252, .aload_n 1), (253, .aload_n 0), (254, .iload_n 3), (255, .iconst 1)] = true := by decide +kernel
theorem rck_16 : rck [(256, .iadd), (257, .iaload), (258, .invokevirtual 23), (261, .aload_n 2), (262, .aload_n 0), (263, .iload_n 3), (264, .iconst 1), (265, .iadd), (266, .iaload), (267, .invokevirtual 26), (270, .if_icmp .eq 1049)] = true := by decide +kernel
theorem rck_17 : rck [(273, .iconst 0), (274, .ireturn), (275, .aload_n 1), (276, .aload_n 0), (277, .iload_n 3), (278, .iconst 1), (279, .iadd), (280, .iaload), (281, .invokevirtual 27), (284, .aload_n 2), (285, .aload_n 0), (286, .iload_n 3), (287, .iconst 1)] = true := by decide +kernel
theorem rck_18 : rck [(288, .iadd), (289, .iaload), (290, .invokevirtual 30), (293, .if_icmp .eq 1026), (296, .iconst 0), (297, .ireturn), (298, .aload_n 1), (299, .aload_n 0), (300, .iload_n 3), (301, .iconst 1), (302, .iadd), (303, .iaload)] = true := by decide +kernel
theorem rck_19 : rck [(304, .aload_n 0), (305, .iload_n 3), (306, .iconst 2), (307, .iadd), (308, .iaload), (309, .invokevirtual 31), (312, .aload_n 2), (313, .aload_n 0), (314, .iload_n 3), (315, .iconst 1), (316, .iadd), (317, .iaload), (318, .aload_n 0), (319, .iload_n 3)] = true := by decide +kernel
theorem rck_20 : rck [(320, .iconst 2), (321, .iadd), (322, .iaload), (323, .invokevirtual 34), (326, .if_icmp .eq 993), (329, .iconst 0), (330, .ireturn), (331, .aload_n 1), (332, .aload_n 0), (333, .iload_n 3), (334, .iconst 1), (335, .iadd)] = true := by decide +kernel

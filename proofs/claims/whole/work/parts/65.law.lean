/-! the law: its table, its loop -/
def me_L_law : MI := (x, code, 4, ret, 8, [
  [(0, .new 7), (3, .dup), (4, .invokespecial 9), (7, .astore_n 1), (8, .new 10), (11, .dup), (12, .invokespecial 12), (15, .astore_n 2)],
  [(16, .iconst 0), (17, .istore_n 3), (18, .iload_n 3), (19, .aload_n 0), (20, .arraylength), (21, .bipush 6), (23, .isub), (24, .if_icmp .gt 1301), (27, .aload_n 0), (28, .iload_n 3), (29, .iaload), (30, .bipush 63)],
  [(32, .iand), (33, .tableswitch 1286 0 36 #[163, 196, 219, 242, 265, 298, 331, 374, 387, 410, 453, 496, 519, 552, 575, 588, 601, 624, 657, 690, 723, 746, 789, 802, 815, 838, 871, 904, 948, 991, 1034, 1057, 1110, 1153, 1216, 1249, 1272])],
  [],
  [],
  [],
  [],
  [],
  [],
  [],
  [],
  [],
  [(196, .aload_n 1), (197, .aload_n 0), (198, .iload_n 3), (199, .iconst 1), (200, .iadd), (201, .iaload), (202, .aload_n 0), (203, .iload_n 3), (204, .iconst 2), (205, .iadd), (206, .iaload), (207, .invokevirtual 13)],
  [(210, .aload_n 2), (211, .aload_n 0), (212, .iload_n 3), (213, .iconst 1), (214, .iadd), (215, .iaload), (216, .aload_n 0), (217, .iload_n 3), (218, .iconst 2), (219, .iadd), (220, .iaload), (221, .invokevirtual 17)],
  [(224, .if_icmp .eq 1095), (227, .iconst 0), (228, .ireturn), (229, .aload_n 1), (230, .aload_n 0), (231, .iload_n 3), (232, .iconst 1), (233, .iadd), (234, .iaload), (235, .invokevirtual 18), (238, .aload_n 2), (239, .aload_n 0)],
  [(240, .iload_n 3), (241, .iconst 1), (242, .iadd), (243, .iaload), (244, .invokevirtual 22), (247, .if_icmp .eq 1072), (250, .iconst 0), (251, .ireturn), (252, .aload_n 1), (253, .aload_n 0), (254, .iload_n 3), (255, .iconst 1)],
  [(256, .iadd), (257, .iaload), (258, .invokevirtual 23), (261, .aload_n 2), (262, .aload_n 0), (263, .iload_n 3), (264, .iconst 1), (265, .iadd), (266, .iaload), (267, .invokevirtual 26), (270, .if_icmp .eq 1049)],
  [(273, .iconst 0), (274, .ireturn), (275, .aload_n 1), (276, .aload_n 0), (277, .iload_n 3), (278, .iconst 1), (279, .iadd), (280, .iaload), (281, .invokevirtual 27), (284, .aload_n 2), (285, .aload_n 0), (286, .iload_n 3), (287, .iconst 1)],
  [(288, .iadd), (289, .iaload), (290, .invokevirtual 30), (293, .if_icmp .eq 1026), (296, .iconst 0), (297, .ireturn), (298, .aload_n 1), (299, .aload_n 0), (300, .iload_n 3), (301, .iconst 1), (302, .iadd), (303, .iaload)],
  [(304, .aload_n 0), (305, .iload_n 3), (306, .iconst 2), (307, .iadd), (308, .iaload), (309, .invokevirtual 31), (312, .aload_n 2), (313, .aload_n 0), (314, .iload_n 3), (315, .iconst 1), (316, .iadd), (317, .iaload), (318, .aload_n 0), (319, .iload_n 3)],
  [(320, .iconst 2), (321, .iadd), (322, .iaload), (323, .invokevirtual 34), (326, .if_icmp .eq 993), (329, .iconst 0), (330, .ireturn), (331, .aload_n 1), (332, .aload_n 0), (333, .iload_n 3), (334, .iconst 1), (335, .iadd)],
  [(336, .iaload), (337, .aload_n 0), (338, .iload_n 3), (339, .iconst 2), (340, .iadd), (341, .iaload), (342, .invokevirtual 35), (345, .aload_n 2), (346, .aload_n 0), (347, .iload_n 3), (348, .iconst 1), (349, .iadd), (350, .iaload), (351, .aload_n 0)],
  [(352, .iload_n 3), (353, .iconst 2), (354, .iadd), (355, .iaload), (356, .invokevirtual 38), (359, .if_icmp .eq 960), (362, .iconst 0), (363, .ireturn), (364, .aload_n 1), (365, .aload_n 0), (366, .iload_n 3), (367, .iconst 1)],
  [(368, .iadd), (369, .iaload), (370, .aload_n 0), (371, .iload_n 3), (372, .iconst 2), (373, .iadd), (374, .iaload), (375, .aload_n 0), (376, .iload_n 3), (377, .iconst 3), (378, .iadd), (379, .iaload), (380, .invokevirtual 39), (383, .aload_n 2)],
  [(384, .aload_n 0), (385, .iload_n 3), (386, .iconst 1), (387, .iadd), (388, .iaload), (389, .aload_n 0), (390, .iload_n 3), (391, .iconst 2), (392, .iadd), (393, .iaload), (394, .aload_n 0), (395, .iload_n 3), (396, .iconst 3), (397, .iadd), (398, .iaload), (399, .invokevirtual 43)],
  [(402, .if_icmp .eq 917), (405, .iconst 0), (406, .ireturn), (407, .aload_n 1), (408, .invokevirtual 44), (411, .aload_n 2), (412, .invokevirtual 48), (415, .if_icmp .eq 904)],
  [(418, .iconst 0), (419, .ireturn), (420, .aload_n 1), (421, .aload_n 0), (422, .iload_n 3), (423, .iconst 1), (424, .iadd), (425, .iaload), (426, .invokevirtual 49), (429, .aload_n 2), (430, .aload_n 0), (431, .iload_n 3)],
  [(432, .iconst 1), (433, .iadd), (434, .iaload), (435, .invokevirtual 52), (438, .if_icmp .eq 881), (441, .iconst 0), (442, .ireturn), (443, .aload_n 1), (444, .aload_n 0), (445, .iload_n 3), (446, .iconst 1), (447, .iadd)],
  [(448, .iaload), (449, .aload_n 0), (450, .iload_n 3), (451, .iconst 2), (452, .iadd), (453, .iaload), (454, .aload_n 0), (455, .iload_n 3), (456, .iconst 3), (457, .iadd), (458, .iaload), (459, .invokevirtual 53), (462, .aload_n 2), (463, .aload_n 0)],
  [(464, .iload_n 3), (465, .iconst 1), (466, .iadd), (467, .iaload), (468, .aload_n 0), (469, .iload_n 3), (470, .iconst 2), (471, .iadd), (472, .iaload), (473, .aload_n 0), (474, .iload_n 3), (475, .iconst 3), (476, .iadd), (477, .iaload), (478, .invokevirtual 56)],
  [(481, .if_icmp .eq 838), (484, .iconst 0), (485, .ireturn), (486, .aload_n 1), (487, .aload_n 0), (488, .iload_n 3), (489, .iconst 1), (490, .iadd), (491, .iaload), (492, .aload_n 0), (493, .iload_n 3), (494, .iconst 2), (495, .iadd)],
  [(496, .iaload), (497, .aload_n 0), (498, .iload_n 3), (499, .iconst 3), (500, .iadd), (501, .iaload), (502, .invokevirtual 57), (505, .aload_n 2), (506, .aload_n 0), (507, .iload_n 3), (508, .iconst 1), (509, .iadd), (510, .iaload), (511, .aload_n 0)],
  [(512, .iload_n 3), (513, .iconst 2), (514, .iadd), (515, .iaload), (516, .aload_n 0), (517, .iload_n 3), (518, .iconst 3), (519, .iadd), (520, .iaload), (521, .invokevirtual 60), (524, .if_icmp .eq 795), (527, .iconst 0)],
  [(528, .ireturn), (529, .aload_n 1), (530, .aload_n 0), (531, .iload_n 3), (532, .iconst 1), (533, .iadd), (534, .iaload), (535, .invokevirtual 61), (538, .aload_n 2), (539, .aload_n 0), (540, .iload_n 3), (541, .iconst 1), (542, .iadd), (543, .iaload)],
  [(544, .invokevirtual 64), (547, .if_icmp .eq 772), (550, .iconst 0), (551, .ireturn), (552, .aload_n 1), (553, .aload_n 0), (554, .iload_n 3), (555, .iconst 1), (556, .iadd), (557, .iaload), (558, .aload_n 0), (559, .iload_n 3)],
  [(560, .iconst 2), (561, .iadd), (562, .iaload), (563, .invokevirtual 65), (566, .aload_n 2), (567, .aload_n 0), (568, .iload_n 3), (569, .iconst 1), (570, .iadd), (571, .iaload), (572, .aload_n 0), (573, .iload_n 3), (574, .iconst 2), (575, .iadd)],
  [(576, .iaload), (577, .invokevirtual 68), (580, .if_icmp .eq 739), (583, .iconst 0), (584, .ireturn), (585, .aload_n 1), (586, .aload_n 0), (587, .iload_n 3), (588, .iconst 1), (589, .iadd), (590, .iaload), (591, .invokevirtual 69)],
  [(594, .aload_n 2), (595, .aload_n 0), (596, .iload_n 3), (597, .iconst 1), (598, .iadd), (599, .iaload), (600, .invokevirtual 72), (603, .if_icmp .eq 716), (606, .iconst 0), (607, .ireturn)],
  [(608, .aload_n 1), (609, .invokevirtual 73), (612, .aload_n 2), (613, .invokevirtual 76), (616, .if_icmp .eq 703), (619, .iconst 0), (620, .ireturn), (621, .aload_n 1), (622, .invokevirtual 77)],
  [(625, .aload_n 2), (626, .invokevirtual 80), (629, .if_icmp .eq 690), (632, .iconst 0), (633, .ireturn), (634, .aload_n 1), (635, .aload_n 0), (636, .iload_n 3), (637, .iconst 1), (638, .iadd), (639, .iaload)],
  [(640, .invokevirtual 81), (643, .aload_n 2), (644, .aload_n 0), (645, .iload_n 3), (646, .iconst 1), (647, .iadd), (648, .iaload), (649, .invokevirtual 84), (652, .if_icmp .eq 667), (655, .iconst 0)],
  [(656, .ireturn), (657, .aload_n 1), (658, .aload_n 0), (659, .iload_n 3), (660, .iconst 1), (661, .iadd), (662, .iaload), (663, .aload_n 0), (664, .iload_n 3), (665, .iconst 2), (666, .iadd), (667, .iaload), (668, .invokevirtual 85), (671, .aload_n 2)],
  [(672, .aload_n 0), (673, .iload_n 3), (674, .iconst 1), (675, .iadd), (676, .iaload), (677, .aload_n 0), (678, .iload_n 3), (679, .iconst 2), (680, .iadd), (681, .iaload), (682, .invokevirtual 88), (685, .if_icmp .eq 634)],
  [(688, .iconst 0), (689, .ireturn), (690, .aload_n 1), (691, .aload_n 0), (692, .iload_n 3), (693, .iconst 1), (694, .iadd), (695, .iaload), (696, .aload_n 0), (697, .iload_n 3), (698, .iconst 2), (699, .iadd), (700, .iaload), (701, .invokevirtual 89)],
  [(704, .aload_n 2), (705, .aload_n 0), (706, .iload_n 3), (707, .iconst 1), (708, .iadd), (709, .iaload), (710, .aload_n 0), (711, .iload_n 3), (712, .iconst 2), (713, .iadd), (714, .iaload), (715, .invokevirtual 92), (718, .if_icmp .eq 601)],
  [(721, .iconst 0), (722, .ireturn), (723, .aload_n 1), (724, .aload_n 0), (725, .iload_n 3), (726, .iconst 1), (727, .iadd), (728, .iaload), (729, .aload_n 0), (730, .iload_n 3), (731, .iconst 2), (732, .iadd), (733, .iaload), (734, .invokevirtual 93)],
  [(737, .aload_n 2), (738, .aload_n 0), (739, .iload_n 3), (740, .iconst 1), (741, .iadd), (742, .iaload), (743, .aload_n 0), (744, .iload_n 3), (745, .iconst 2), (746, .iadd), (747, .iaload), (748, .invokevirtual 96), (751, .if_icmp .eq 568)],
  [(754, .iconst 0), (755, .ireturn), (756, .aload_n 1), (757, .aload_n 0), (758, .iload_n 3), (759, .iconst 1), (760, .iadd), (761, .iaload), (762, .invokevirtual 97), (765, .aload_n 2), (766, .aload_n 0), (767, .iload_n 3)],
  [(768, .iconst 1), (769, .iadd), (770, .iaload), (771, .invokevirtual 100), (774, .if_icmp .eq 545), (777, .iconst 0), (778, .ireturn), (779, .aload_n 1), (780, .aload_n 0), (781, .iload_n 3), (782, .iconst 1), (783, .iadd)],
  [(784, .iaload), (785, .aload_n 0), (786, .iload_n 3), (787, .iconst 2), (788, .iadd), (789, .iaload), (790, .aload_n 0), (791, .iload_n 3), (792, .iconst 3), (793, .iadd), (794, .iaload), (795, .invokevirtual 101), (798, .aload_n 2), (799, .aload_n 0)],
  [(800, .iload_n 3), (801, .iconst 1), (802, .iadd), (803, .iaload), (804, .aload_n 0), (805, .iload_n 3), (806, .iconst 2), (807, .iadd), (808, .iaload), (809, .aload_n 0), (810, .iload_n 3), (811, .iconst 3), (812, .iadd), (813, .iaload), (814, .invokevirtual 104)],
  [(817, .if_icmp .eq 502), (820, .iconst 0), (821, .ireturn), (822, .aload_n 1), (823, .invokevirtual 105), (826, .aload_n 2), (827, .invokevirtual 108), (830, .if_icmp .eq 489)],
  [(833, .iconst 0), (834, .ireturn), (835, .aload_n 1), (836, .invokevirtual 109), (839, .aload_n 2), (840, .invokevirtual 112), (843, .if_icmp .eq 476), (846, .iconst 0), (847, .ireturn)],
  [(848, .aload_n 1), (849, .aload_n 0), (850, .iload_n 3), (851, .iconst 1), (852, .iadd), (853, .iaload), (854, .invokevirtual 113), (857, .aload_n 2), (858, .aload_n 0), (859, .iload_n 3), (860, .iconst 1), (861, .iadd), (862, .iaload), (863, .invokevirtual 116)],
  [(866, .if_icmp .eq 453), (869, .iconst 0), (870, .ireturn), (871, .aload_n 1), (872, .aload_n 0), (873, .iload_n 3), (874, .iconst 1), (875, .iadd), (876, .iaload), (877, .aload_n 0), (878, .iload_n 3), (879, .iconst 2)],
  [(880, .iadd), (881, .iaload), (882, .invokevirtual 117), (885, .aload_n 2), (886, .aload_n 0), (887, .iload_n 3), (888, .iconst 1), (889, .iadd), (890, .iaload), (891, .aload_n 0), (892, .iload_n 3), (893, .iconst 2), (894, .iadd), (895, .iaload)],
  [(896, .invokevirtual 120), (899, .if_icmp .eq 420), (902, .iconst 0), (903, .ireturn), (904, .aload_n 1), (905, .aload_n 0), (906, .iload_n 3), (907, .iconst 1), (908, .iadd), (909, .iaload), (910, .aload_n 0), (911, .iload_n 3)],
  [(912, .iconst 2), (913, .iadd), (914, .iaload), (915, .invokevirtual 121), (918, .aload_n 2), (919, .aload_n 0), (920, .iload_n 3), (921, .iconst 1), (922, .iadd), (923, .iaload), (924, .aload_n 0), (925, .iload_n 3), (926, .iconst 2), (927, .iadd)],
  [(928, .iaload), (929, .invokevirtual 124), (932, .if_icmp .eq 387), (935, .iconst 0), (936, .ireturn), (937, .aload_n 1), (938, .aload_n 0), (939, .iload_n 3), (940, .iconst 1), (941, .iadd), (942, .iaload), (943, .aload_n 0)],
  [(944, .iload_n 3), (945, .iconst 2), (946, .iadd), (947, .iaload), (948, .aload_n 0), (949, .iload_n 3), (950, .iconst 3), (951, .iadd), (952, .iaload), (953, .invokevirtual 125), (956, .aload_n 2), (957, .aload_n 0), (958, .iload_n 3), (959, .iconst 1)],
  [(960, .iadd), (961, .iaload), (962, .aload_n 0), (963, .iload_n 3), (964, .iconst 2), (965, .iadd), (966, .iaload), (967, .aload_n 0), (968, .iload_n 3), (969, .iconst 3), (970, .iadd), (971, .iaload), (972, .invokevirtual 129), (975, .lcmp)],
  [(976, .ifCond .eq 343), (979, .iconst 0), (980, .ireturn), (981, .aload_n 1), (982, .aload_n 0), (983, .iload_n 3), (984, .iconst 1), (985, .iadd), (986, .iaload), (987, .aload_n 0), (988, .iload_n 3), (989, .iconst 2), (990, .iadd), (991, .iaload)],
  [(992, .aload_n 0), (993, .iload_n 3), (994, .iconst 3), (995, .iadd), (996, .iaload), (997, .invokevirtual 130), (1000, .aload_n 2), (1001, .aload_n 0), (1002, .iload_n 3), (1003, .iconst 1), (1004, .iadd), (1005, .iaload), (1006, .aload_n 0), (1007, .iload_n 3)],
  [(1008, .iconst 2), (1009, .iadd), (1010, .iaload), (1011, .aload_n 0), (1012, .iload_n 3), (1013, .iconst 3), (1014, .iadd), (1015, .iaload), (1016, .invokevirtual 133), (1019, .if_icmp .eq 300), (1022, .iconst 0), (1023, .ireturn)],
  [(1024, .aload_n 1), (1025, .aload_n 0), (1026, .iload_n 3), (1027, .iconst 1), (1028, .iadd), (1029, .iaload), (1030, .aload_n 0), (1031, .iload_n 3), (1032, .iconst 2), (1033, .iadd), (1034, .iaload), (1035, .aload_n 0), (1036, .iload_n 3), (1037, .iconst 3), (1038, .iadd), (1039, .iaload)],
  [(1040, .invokevirtual 134), (1043, .aload_n 2), (1044, .aload_n 0), (1045, .iload_n 3), (1046, .iconst 1), (1047, .iadd), (1048, .iaload), (1049, .aload_n 0), (1050, .iload_n 3), (1051, .iconst 2), (1052, .iadd), (1053, .iaload), (1054, .aload_n 0), (1055, .iload_n 3)],
  [(1056, .iconst 3), (1057, .iadd), (1058, .iaload), (1059, .invokevirtual 137), (1062, .if_icmp .eq 257), (1065, .iconst 0), (1066, .ireturn), (1067, .aload_n 1), (1068, .aload_n 0), (1069, .iload_n 3), (1070, .iconst 1), (1071, .iadd)],
  [(1072, .iaload), (1073, .invokevirtual 138), (1076, .aload_n 2), (1077, .aload_n 0), (1078, .iload_n 3), (1079, .iconst 1), (1080, .iadd), (1081, .iaload), (1082, .invokevirtual 141), (1085, .if_icmp .eq 234)],
  [(1088, .iconst 0), (1089, .ireturn), (1090, .aload_n 1), (1091, .aload_n 0), (1092, .iload_n 3), (1093, .iconst 1), (1094, .iadd), (1095, .iaload), (1096, .aload_n 0), (1097, .iload_n 3), (1098, .iconst 2), (1099, .iadd), (1100, .iaload), (1101, .aload_n 0), (1102, .iload_n 3), (1103, .iconst 3)],
  [(1104, .iadd), (1105, .iaload), (1106, .aload_n 0), (1107, .iload_n 3), (1108, .iconst 4), (1109, .iadd), (1110, .iaload), (1111, .invokevirtual 142), (1114, .aload_n 2), (1115, .aload_n 0), (1116, .iload_n 3), (1117, .iconst 1), (1118, .iadd), (1119, .iaload)],
  [(1120, .aload_n 0), (1121, .iload_n 3), (1122, .iconst 2), (1123, .iadd), (1124, .iaload), (1125, .aload_n 0), (1126, .iload_n 3), (1127, .iconst 3), (1128, .iadd), (1129, .iaload), (1130, .aload_n 0), (1131, .iload_n 3), (1132, .iconst 4), (1133, .iadd), (1134, .iaload), (1135, .invokevirtual 146)],
  [(1138, .if_icmp .eq 181), (1141, .iconst 0), (1142, .ireturn), (1143, .aload_n 1), (1144, .aload_n 0), (1145, .iload_n 3), (1146, .iconst 1), (1147, .iadd), (1148, .iaload), (1149, .aload_n 0), (1150, .iload_n 3), (1151, .iconst 2)],
  [(1152, .iadd), (1153, .iaload), (1154, .aload_n 0), (1155, .iload_n 3), (1156, .iconst 3), (1157, .iadd), (1158, .iaload), (1159, .invokevirtual 147), (1162, .aload_n 2), (1163, .aload_n 0), (1164, .iload_n 3), (1165, .iconst 1), (1166, .iadd), (1167, .iaload)],
  [(1168, .aload_n 0), (1169, .iload_n 3), (1170, .iconst 2), (1171, .iadd), (1172, .iaload), (1173, .aload_n 0), (1174, .iload_n 3), (1175, .iconst 3), (1176, .iadd), (1177, .iaload), (1178, .invokevirtual 150), (1181, .if_icmp .eq 138)],
  [(1184, .iconst 0), (1185, .ireturn), (1186, .aload_n 1), (1187, .aload_n 0), (1188, .iload_n 3), (1189, .iconst 1), (1190, .iadd), (1191, .iaload), (1192, .aload_n 0), (1193, .iload_n 3), (1194, .iconst 2), (1195, .iadd), (1196, .iaload), (1197, .aload_n 0), (1198, .iload_n 3), (1199, .iconst 3)],
  [(1200, .iadd), (1201, .iaload), (1202, .aload_n 0), (1203, .iload_n 3), (1204, .iconst 4), (1205, .iadd), (1206, .iaload), (1207, .aload_n 0), (1208, .iload_n 3), (1209, .iconst 5), (1210, .iadd), (1211, .iaload), (1212, .invokevirtual 151), (1215, .aload_n 2)],
  [(1216, .aload_n 0), (1217, .iload_n 3), (1218, .iconst 1), (1219, .iadd), (1220, .iaload), (1221, .aload_n 0), (1222, .iload_n 3), (1223, .iconst 2), (1224, .iadd), (1225, .iaload), (1226, .aload_n 0), (1227, .iload_n 3), (1228, .iconst 3), (1229, .iadd), (1230, .iaload), (1231, .aload_n 0)],
  [(1232, .iload_n 3), (1233, .iconst 4), (1234, .iadd), (1235, .iaload), (1236, .aload_n 0), (1237, .iload_n 3), (1238, .iconst 5), (1239, .iadd), (1240, .iaload), (1241, .invokevirtual 155), (1244, .if_icmp .eq 75), (1247, .iconst 0)],
  [(1248, .ireturn), (1249, .aload_n 1), (1250, .aload_n 0), (1251, .iload_n 3), (1252, .iconst 1), (1253, .iadd), (1254, .iaload), (1255, .aload_n 0), (1256, .iload_n 3), (1257, .iconst 2), (1258, .iadd), (1259, .iaload), (1260, .invokevirtual 156), (1263, .aload_n 2)],
  [(1264, .aload_n 0), (1265, .iload_n 3), (1266, .iconst 1), (1267, .iadd), (1268, .iaload), (1269, .aload_n 0), (1270, .iload_n 3), (1271, .iconst 2), (1272, .iadd), (1273, .iaload), (1274, .invokevirtual 159), (1277, .if_icmp .eq 42)],
  [(1280, .iconst 0), (1281, .ireturn), (1282, .aload_n 1), (1283, .aload_n 0), (1284, .iload_n 3), (1285, .iconst 1), (1286, .iadd), (1287, .iaload), (1288, .invokevirtual 160), (1291, .aload_n 2), (1292, .aload_n 0), (1293, .iload_n 3), (1294, .iconst 1), (1295, .iadd)],
  [(1296, .iaload), (1297, .invokevirtual 163), (1300, .if_icmp .eq 19), (1303, .iconst 0), (1304, .ireturn), (1305, .aload_n 1), (1306, .invokevirtual 164), (1309, .aload_n 2), (1310, .invokevirtual 168)],
  [(1313, .lcmp), (1314, .ifCond .eq 5), (1317, .iconst 0), (1318, .ireturn), (1319, .iinc 3 6), (1322, .goto (-1304)), (1325, .iconst 1), (1326, .ireturn)]])
set_option maxRecDepth 100000 in
theorem tck_L0 : (mtb me_L_law).all rck = true := rck_c rck_0 (rck_c rck_1 (rck_c rck_2 (rck_c rck_3 (rck_c rck_4 (rck_c rck_5 (rck_c rck_6 (rck_c rck_7 (rck_c rck_8 (rck_c rck_9 (rck_c rck_10 (rck_c rck_11 (rck_c rck_12 (rck_c rck_13 (rck_c rck_14 (rck_c rck_15 (rck_c rck_16 (rck_c rck_17 (rck_c rck_18 (rck_c rck_19 (rck_c rck_20 (rck_c rck_21 (rck_c rck_22 (rck_c rck_23 (rck_c rck_24 (rck_c rck_25 (rck_c rck_26 (rck_c rck_27 (rck_c rck_28 (rck_c rck_29 (rck_c rck_30 (rck_c rck_31 (rck_c rck_32 (rck_c rck_33 (rck_c rck_34 (rck_c rck_35 (rck_c rck_36 (rck_c rck_37 (rck_c rck_38 (rck_c rck_39 (rck_c rck_40 (rck_c rck_41 (rck_c rck_42 (rck_c rck_43 (rck_c rck_44 (rck_c rck_45 (rck_c rck_46 (rck_c rck_47 (rck_c rck_48 (rck_c rck_49 (rck_c rck_50 (rck_c rck_51 (rck_c rck_52 (rck_c rck_53 (rck_c rck_54 (rck_c rck_55 (rck_c rck_56 (rck_c rck_57 (rck_c rck_58 (rck_c rck_59 (rck_c rck_60 (rck_c rck_61 (rck_c rck_62 (rck_c rck_63 (rck_c rck_64 (rck_c rck_65 (rck_c rck_66 (rck_c rck_67 (rck_c rck_68 (rck_c rck_69 (rck_c rck_70 (rck_c rck_71 (rck_c rck_72 (rck_c rck_73 (rck_c rck_74 (rck_c rck_75 (rck_c rck_76 (rck_c rck_77 (rck_c rck_78 (rck_c rck_79 (rck_c rck_80 (rck_c rck_81 (rck_c rck_82 (rfl)))))))))))))))))))))))))))))))))))))))))))))))))))))))))))))))))))))))))))))))))))
set_option maxRecDepth 100000 in
theorem tck_L : tchk me_L_law = true := tck_L0
theorem x_sldN {M : MI} {D : Nat} {L : Nat} {xs : Nat → Int32} {Q : Option Value → ST → Prop} {pc : Nat} {lv : List (Nat × Value)} {st : List Value} {S : ST} {j : Nat} (hf : fet M pc = some .iaload) (hj : j < L) (hL : L < 2 ^ 31) (kk : BX M D (some (L, xs)) Q (pc + 1, lv, .int (xs j) :: st, S)) : BX M D (some (L, xs)) Q (pc, lv, .int (nI j) :: .ref 999 :: st, S) := by
  refine x_sld hf (vp_in_nI hj hL) ?_
  rw [nI_clamp (by omega)]
  exact kk
theorem nI_self (x : Int32) : nI x.toBitVec.toNat = x := Int32.toBitVec_inj.mp (by
  show BitVec.ofNat 32 x.toBitVec.toNat = x.toBitVec
  simp)
theorem and63 (x : Int32) : ∃ j : Nat, j < 64 ∧ x &&& nI 63 = nI j := by
  refine ⟨x.toBitVec.toNat &&& 63, ?_, ?_⟩
  · have := @Nat.and_le_right x.toBitVec.toNat 63
    omega
  · rw [← fa_and, nI_self]
def QL0 : Option Value → ST → Prop := fun r _ => r = some (.int 1)
theorem lg_self {x : Int64} : lg_cmp x x = 0 := by
  unfold lg_cmp
  rw [if_neg (by
    intro h
    exact absurd (Int64.lt_iff_toInt_lt.mp h) (Int.lt_irrefl _)), if_pos rfl]

def T_Lw_0 : List (Nat × Instr × Nat) := [
  (0, .new 7, 3), (3, .dup, 1), (4, .invokespecial 9, 3), (7, .astore_n 1, 1), (8, .new 10, 3), (11, .dup, 1),
  (12, .invokespecial 12, 3), (15, .astore_n 2, 1), (16, .iconst 0, 1), (17, .istore_n 3, 1), (18, .iload_n 3, 1), (19, .aload_n 0, 1),
  (20, .arraylength, 1), (21, .iconst 5, 1), (22, .isub, 1), (23, .if_icmp .gt 1772, 3), (26, .aload_n 0, 1), (27, .iload_n 3, 1),
  (28, .iaload, 1), (29, .bipush 63, 2), (31, .iand, 1), (32, .tableswitch 1757 0 52 #[228, 271, 304, 347, 380, 433, 466, 499, 542, 565, 578, 601, 664, 677, 690, 713, 736, 759, 782, 805, 818, 831, 854, 877, 900, 933, 956, 989, 1022, 1045, 1068, 1121, 1134, 1157, 1170, 1193, 1206, 1239, 1262, 1295, 1338, 1351, 1394, 1437, 1480, 1523, 1566, 1609, 1642, 1685, 1708, 1731, 1744], 228), (260, .aload_n 1, 1), (261, .aload_n 0, 1),
  (262, .iload_n 3, 1), (263, .iconst 1, 1), (264, .iadd, 1), (265, .iaload, 1), (266, .aload_n 0, 1), (267, .iload_n 3, 1),
  (268, .iconst 2, 1), (269, .iadd, 1), (270, .iaload, 1), (271, .aload_n 0, 1), (272, .iload_n 3, 1), (273, .iconst 3, 1),
  (274, .iadd, 1), (275, .iaload, 1), (276, .invokevirtual 13, 3), (279, .aload_n 2, 1)]
set_option maxRecDepth 100000 in
theorem K_Lw_0 : T_Lw_0.all (fun e => decide (decode code e.1 = .ok e.2)) = true := by decide +kernel
def T_Lw_1 : List (Nat × Instr × Nat) := [
  (280, .aload_n 0, 1), (281, .iload_n 3, 1), (282, .iconst 1, 1), (283, .iadd, 1), (284, .iaload, 1), (285, .aload_n 0, 1),
  (286, .iload_n 3, 1), (287, .iconst 2, 1), (288, .iadd, 1), (289, .iaload, 1), (290, .aload_n 0, 1), (291, .iload_n 3, 1),
  (292, .iconst 3, 1), (293, .iadd, 1), (294, .iaload, 1), (295, .invokevirtual 17, 3), (298, .if_icmp .eq 1491, 3), (301, .iconst 0, 1),
  (302, .ireturn, 1), (303, .aload_n 1, 1), (304, .aload_n 0, 1), (305, .iload_n 3, 1), (306, .iconst 1, 1), (307, .iadd, 1),
  (308, .iaload, 1), (309, .aload_n 0, 1), (310, .iload_n 3, 1), (311, .iconst 2, 1), (312, .iadd, 1), (313, .iaload, 1),
  (314, .invokevirtual 18, 3), (317, .aload_n 2, 1), (318, .aload_n 0, 1), (319, .iload_n 3, 1), (320, .iconst 1, 1), (321, .iadd, 1),
  (322, .iaload, 1), (323, .aload_n 0, 1), (324, .iload_n 3, 1), (325, .iconst 2, 1)]
set_option maxRecDepth 100000 in
theorem K_Lw_1 : T_Lw_1.all (fun e => decide (decode code e.1 = .ok e.2)) = true := by decide +kernel
def T_Lw_2 : List (Nat × Instr × Nat) := [
  (326, .iadd, 1), (327, .iaload, 1), (328, .invokevirtual 22, 3), (331, .if_icmp .eq 1458, 3), (334, .iconst 0, 1), (335, .ireturn, 1),
  (336, .aload_n 1, 1), (337, .aload_n 0, 1), (338, .iload_n 3, 1), (339, .iconst 1, 1), (340, .iadd, 1), (341, .iaload, 1),
  (342, .aload_n 0, 1), (343, .iload_n 3, 1), (344, .iconst 2, 1), (345, .iadd, 1), (346, .iaload, 1), (347, .aload_n 0, 1),
  (348, .iload_n 3, 1), (349, .iconst 3, 1), (350, .iadd, 1), (351, .iaload, 1), (352, .invokevirtual 23, 3), (355, .aload_n 2, 1),
  (356, .aload_n 0, 1), (357, .iload_n 3, 1), (358, .iconst 1, 1), (359, .iadd, 1), (360, .iaload, 1), (361, .aload_n 0, 1),
  (362, .iload_n 3, 1), (363, .iconst 2, 1), (364, .iadd, 1), (365, .iaload, 1), (366, .aload_n 0, 1), (367, .iload_n 3, 1),
  (368, .iconst 3, 1), (369, .iadd, 1), (370, .iaload, 1), (371, .invokevirtual 26, 3)]
set_option maxRecDepth 100000 in
theorem K_Lw_2 : T_Lw_2.all (fun e => decide (decode code e.1 = .ok e.2)) = true := by decide +kernel
def T_Lw_3 : List (Nat × Instr × Nat) := [
  (374, .if_icmp .eq 1415, 3), (377, .iconst 0, 1), (378, .ireturn, 1), (379, .aload_n 1, 1), (380, .aload_n 0, 1), (381, .iload_n 3, 1),
  (382, .iconst 1, 1), (383, .iadd, 1), (384, .iaload, 1), (385, .aload_n 0, 1), (386, .iload_n 3, 1), (387, .iconst 2, 1),
  (388, .iadd, 1), (389, .iaload, 1), (390, .invokevirtual 27, 3), (393, .aload_n 2, 1), (394, .aload_n 0, 1), (395, .iload_n 3, 1),
  (396, .iconst 1, 1), (397, .iadd, 1), (398, .iaload, 1), (399, .aload_n 0, 1), (400, .iload_n 3, 1), (401, .iconst 2, 1),
  (402, .iadd, 1), (403, .iaload, 1), (404, .invokevirtual 30, 3), (407, .if_icmp .eq 1382, 3), (410, .iconst 0, 1), (411, .ireturn, 1),
  (412, .aload_n 1, 1), (413, .aload_n 0, 1), (414, .iload_n 3, 1), (415, .iconst 1, 1), (416, .iadd, 1), (417, .iaload, 1),
  (418, .aload_n 0, 1), (419, .iload_n 3, 1), (420, .iconst 2, 1), (421, .iadd, 1)]
set_option maxRecDepth 100000 in
theorem K_Lw_3 : T_Lw_3.all (fun e => decide (decode code e.1 = .ok e.2)) = true := by decide +kernel
def T_Lw_4 : List (Nat × Instr × Nat) := [
  (422, .iaload, 1), (423, .aload_n 0, 1), (424, .iload_n 3, 1), (425, .iconst 3, 1), (426, .iadd, 1), (427, .iaload, 1),
  (428, .aload_n 0, 1), (429, .iload_n 3, 1), (430, .iconst 4, 1), (431, .iadd, 1), (432, .iaload, 1), (433, .invokevirtual 31, 3),
  (436, .aload_n 2, 1), (437, .aload_n 0, 1), (438, .iload_n 3, 1), (439, .iconst 1, 1), (440, .iadd, 1), (441, .iaload, 1),
  (442, .aload_n 0, 1), (443, .iload_n 3, 1), (444, .iconst 2, 1), (445, .iadd, 1), (446, .iaload, 1), (447, .aload_n 0, 1),
  (448, .iload_n 3, 1), (449, .iconst 3, 1), (450, .iadd, 1), (451, .iaload, 1), (452, .aload_n 0, 1), (453, .iload_n 3, 1),
  (454, .iconst 4, 1), (455, .iadd, 1), (456, .iaload, 1), (457, .invokevirtual 35, 3), (460, .if_icmp .eq 1329, 3), (463, .iconst 0, 1),
  (464, .ireturn, 1), (465, .aload_n 1, 1), (466, .aload_n 0, 1), (467, .iload_n 3, 1)]
set_option maxRecDepth 100000 in
theorem K_Lw_4 : T_Lw_4.all (fun e => decide (decode code e.1 = .ok e.2)) = true := by decide +kernel
def T_Lw_5 : List (Nat × Instr × Nat) := [
  (468, .iconst 1, 1), (469, .iadd, 1), (470, .iaload, 1), (471, .aload_n 0, 1), (472, .iload_n 3, 1), (473, .iconst 2, 1),
  (474, .iadd, 1), (475, .iaload, 1), (476, .invokevirtual 36, 3), (479, .aload_n 2, 1), (480, .aload_n 0, 1), (481, .iload_n 3, 1),
  (482, .iconst 1, 1), (483, .iadd, 1), (484, .iaload, 1), (485, .aload_n 0, 1), (486, .iload_n 3, 1), (487, .iconst 2, 1),
  (488, .iadd, 1), (489, .iaload, 1), (490, .invokevirtual 39, 3), (493, .if_icmp .eq 1296, 3), (496, .iconst 0, 1), (497, .ireturn, 1),
  (498, .aload_n 1, 1), (499, .aload_n 0, 1), (500, .iload_n 3, 1), (501, .iconst 1, 1), (502, .iadd, 1), (503, .iaload, 1),
  (504, .aload_n 0, 1), (505, .iload_n 3, 1), (506, .iconst 2, 1), (507, .iadd, 1), (508, .iaload, 1), (509, .invokevirtual 40, 3),
  (512, .aload_n 2, 1), (513, .aload_n 0, 1), (514, .iload_n 3, 1), (515, .iconst 1, 1)]
set_option maxRecDepth 100000 in
theorem K_Lw_5 : T_Lw_5.all (fun e => decide (decode code e.1 = .ok e.2)) = true := by decide +kernel
def T_Lw_6 : List (Nat × Instr × Nat) := [
  (516, .iadd, 1), (517, .iaload, 1), (518, .aload_n 0, 1), (519, .iload_n 3, 1), (520, .iconst 2, 1), (521, .iadd, 1),
  (522, .iaload, 1), (523, .invokevirtual 43, 3), (526, .if_icmp .eq 1263, 3), (529, .iconst 0, 1), (530, .ireturn, 1), (531, .aload_n 1, 1),
  (532, .aload_n 0, 1), (533, .iload_n 3, 1), (534, .iconst 1, 1), (535, .iadd, 1), (536, .iaload, 1), (537, .aload_n 0, 1),
  (538, .iload_n 3, 1), (539, .iconst 2, 1), (540, .iadd, 1), (541, .iaload, 1), (542, .aload_n 0, 1), (543, .iload_n 3, 1),
  (544, .iconst 3, 1), (545, .iadd, 1), (546, .iaload, 1), (547, .invokevirtual 44, 3), (550, .aload_n 2, 1), (551, .aload_n 0, 1),
  (552, .iload_n 3, 1), (553, .iconst 1, 1), (554, .iadd, 1), (555, .iaload, 1), (556, .aload_n 0, 1), (557, .iload_n 3, 1),
  (558, .iconst 2, 1), (559, .iadd, 1), (560, .iaload, 1), (561, .aload_n 0, 1)]
set_option maxRecDepth 100000 in
theorem K_Lw_6 : T_Lw_6.all (fun e => decide (decode code e.1 = .ok e.2)) = true := by decide +kernel
def T_Lw_7 : List (Nat × Instr × Nat) := [
  (562, .iload_n 3, 1), (563, .iconst 3, 1), (564, .iadd, 1), (565, .iaload, 1), (566, .invokevirtual 47, 3), (569, .if_icmp .eq 1220, 3),
  (572, .iconst 0, 1), (573, .ireturn, 1), (574, .aload_n 1, 1), (575, .aload_n 0, 1), (576, .iload_n 3, 1), (577, .iconst 1, 1),
  (578, .iadd, 1), (579, .iaload, 1), (580, .invokevirtual 48, 3), (583, .aload_n 2, 1), (584, .aload_n 0, 1), (585, .iload_n 3, 1),
  (586, .iconst 1, 1), (587, .iadd, 1), (588, .iaload, 1), (589, .invokevirtual 52, 3), (592, .if_icmp .eq 1197, 3), (595, .iconst 0, 1),
  (596, .ireturn, 1), (597, .aload_n 1, 1), (598, .invokevirtual 53, 3), (601, .aload_n 2, 1), (602, .invokevirtual 57, 3), (605, .if_icmp .eq 1184, 3),
  (608, .iconst 0, 1), (609, .ireturn, 1), (610, .aload_n 1, 1), (611, .aload_n 0, 1), (612, .iload_n 3, 1), (613, .iconst 1, 1),
  (614, .iadd, 1), (615, .iaload, 1), (616, .invokevirtual 58, 3), (619, .aload_n 2, 1)]
set_option maxRecDepth 100000 in
theorem K_Lw_7 : T_Lw_7.all (fun e => decide (decode code e.1 = .ok e.2)) = true := by decide +kernel
def T_Lw_8 : List (Nat × Instr × Nat) := [
  (620, .aload_n 0, 1), (621, .iload_n 3, 1), (622, .iconst 1, 1), (623, .iadd, 1), (624, .iaload, 1), (625, .invokevirtual 61, 3),
  (628, .if_icmp .eq 1161, 3), (631, .iconst 0, 1), (632, .ireturn, 1), (633, .aload_n 1, 1), (634, .aload_n 0, 1), (635, .iload_n 3, 1),
  (636, .iconst 1, 1), (637, .iadd, 1), (638, .iaload, 1), (639, .i2l, 1), (640, .bipush 32, 2), (642, .lshl, 1),
  (643, .aload_n 0, 1), (644, .iload_n 3, 1), (645, .iconst 2, 1), (646, .iadd, 1), (647, .iaload, 1), (648, .i2l, 1),
  (649, .ldc2_w 62, 3), (652, .land, 1), (653, .lor, 1), (654, .aload_n 0, 1), (655, .iload_n 3, 1), (656, .iconst 3, 1),
  (657, .iadd, 1), (658, .iaload, 1), (659, .invokevirtual 64, 3), (662, .aload_n 2, 1), (663, .aload_n 0, 1), (664, .iload_n 3, 1),
  (665, .iconst 1, 1), (666, .iadd, 1), (667, .iaload, 1), (668, .i2l, 1)]
set_option maxRecDepth 100000 in
theorem K_Lw_8 : T_Lw_8.all (fun e => decide (decode code e.1 = .ok e.2)) = true := by decide +kernel
def T_Lw_9 : List (Nat × Instr × Nat) := [
  (669, .bipush 32, 2), (671, .lshl, 1), (672, .aload_n 0, 1), (673, .iload_n 3, 1), (674, .iconst 2, 1), (675, .iadd, 1),
  (676, .iaload, 1), (677, .i2l, 1), (678, .ldc2_w 62, 3), (681, .land, 1), (682, .lor, 1), (683, .aload_n 0, 1),
  (684, .iload_n 3, 1), (685, .iconst 3, 1), (686, .iadd, 1), (687, .iaload, 1), (688, .invokevirtual 68, 3), (691, .if_icmp .eq 1098, 3),
  (694, .iconst 0, 1), (695, .ireturn, 1), (696, .aload_n 1, 1), (697, .invokevirtual 69, 3), (700, .aload_n 2, 1), (701, .invokevirtual 72, 3),
  (704, .if_icmp .eq 1085, 3), (707, .iconst 0, 1), (708, .ireturn, 1), (709, .aload_n 1, 1), (710, .invokevirtual 73, 3), (713, .aload_n 2, 1),
  (714, .invokevirtual 76, 3), (717, .if_icmp .eq 1072, 3), (720, .iconst 0, 1), (721, .ireturn, 1), (722, .aload_n 1, 1), (723, .aload_n 0, 1),
  (724, .iload_n 3, 1), (725, .iconst 1, 1), (726, .iadd, 1), (727, .iaload, 1)]
set_option maxRecDepth 100000 in
theorem K_Lw_9 : T_Lw_9.all (fun e => decide (decode code e.1 = .ok e.2)) = true := by decide +kernel
def T_Lw_10 : List (Nat × Instr × Nat) := [
  (728, .invokevirtual 77, 3), (731, .aload_n 2, 1), (732, .aload_n 0, 1), (733, .iload_n 3, 1), (734, .iconst 1, 1), (735, .iadd, 1),
  (736, .iaload, 1), (737, .invokevirtual 80, 3), (740, .if_icmp .eq 1049, 3), (743, .iconst 0, 1), (744, .ireturn, 1), (745, .aload_n 1, 1),
  (746, .aload_n 0, 1), (747, .iload_n 3, 1), (748, .iconst 1, 1), (749, .iadd, 1), (750, .iaload, 1), (751, .invokevirtual 81, 3),
  (754, .aload_n 2, 1), (755, .aload_n 0, 1), (756, .iload_n 3, 1), (757, .iconst 1, 1), (758, .iadd, 1), (759, .iaload, 1),
  (760, .invokevirtual 84, 3), (763, .if_icmp .eq 1026, 3), (766, .iconst 0, 1), (767, .ireturn, 1), (768, .aload_n 1, 1), (769, .aload_n 0, 1),
  (770, .iload_n 3, 1), (771, .iconst 1, 1), (772, .iadd, 1), (773, .iaload, 1), (774, .invokevirtual 85, 3), (777, .aload_n 2, 1),
  (778, .aload_n 0, 1), (779, .iload_n 3, 1), (780, .iconst 1, 1), (781, .iadd, 1)]
set_option maxRecDepth 100000 in
theorem K_Lw_10 : T_Lw_10.all (fun e => decide (decode code e.1 = .ok e.2)) = true := by decide +kernel
def T_Lw_11 : List (Nat × Instr × Nat) := [
  (782, .iaload, 1), (783, .invokevirtual 88, 3), (786, .if_icmp .eq 1003, 3), (789, .iconst 0, 1), (790, .ireturn, 1), (791, .aload_n 1, 1),
  (792, .aload_n 0, 1), (793, .iload_n 3, 1), (794, .iconst 1, 1), (795, .iadd, 1), (796, .iaload, 1), (797, .invokevirtual 89, 3),
  (800, .aload_n 2, 1), (801, .aload_n 0, 1), (802, .iload_n 3, 1), (803, .iconst 1, 1), (804, .iadd, 1), (805, .iaload, 1),
  (806, .invokevirtual 92, 3), (809, .if_icmp .eq 980, 3), (812, .iconst 0, 1), (813, .ireturn, 1), (814, .aload_n 1, 1), (815, .aload_n 0, 1),
  (816, .iload_n 3, 1), (817, .iconst 1, 1), (818, .iadd, 1), (819, .iaload, 1), (820, .invokevirtual 93, 3), (823, .aload_n 2, 1),
  (824, .aload_n 0, 1), (825, .iload_n 3, 1), (826, .iconst 1, 1), (827, .iadd, 1), (828, .iaload, 1), (829, .invokevirtual 96, 3),
  (832, .if_icmp .eq 957, 3), (835, .iconst 0, 1), (836, .ireturn, 1), (837, .aload_n 1, 1)]
set_option maxRecDepth 100000 in
theorem K_Lw_11 : T_Lw_11.all (fun e => decide (decode code e.1 = .ok e.2)) = true := by decide +kernel
def T_Lw_12 : List (Nat × Instr × Nat) := [
  (838, .invokevirtual 97, 3), (841, .aload_n 2, 1), (842, .invokevirtual 100, 3), (845, .if_icmp .eq 944, 3), (848, .iconst 0, 1), (849, .ireturn, 1),
  (850, .aload_n 1, 1), (851, .invokevirtual 101, 3), (854, .aload_n 2, 1), (855, .invokevirtual 104, 3), (858, .if_icmp .eq 931, 3), (861, .iconst 0, 1),
  (862, .ireturn, 1), (863, .aload_n 1, 1), (864, .aload_n 0, 1), (865, .iload_n 3, 1), (866, .iconst 1, 1), (867, .iadd, 1),
  (868, .iaload, 1), (869, .invokevirtual 105, 3), (872, .aload_n 2, 1), (873, .aload_n 0, 1), (874, .iload_n 3, 1), (875, .iconst 1, 1),
  (876, .iadd, 1), (877, .iaload, 1), (878, .invokevirtual 108, 3), (881, .if_icmp .eq 908, 3), (884, .iconst 0, 1), (885, .ireturn, 1),
  (886, .aload_n 1, 1), (887, .aload_n 0, 1), (888, .iload_n 3, 1), (889, .iconst 1, 1), (890, .iadd, 1), (891, .iaload, 1),
  (892, .invokevirtual 109, 3), (895, .aload_n 2, 1), (896, .aload_n 0, 1), (897, .iload_n 3, 1)]
set_option maxRecDepth 100000 in
theorem K_Lw_12 : T_Lw_12.all (fun e => decide (decode code e.1 = .ok e.2)) = true := by decide +kernel
def T_Lw_13 : List (Nat × Instr × Nat) := [
  (898, .iconst 1, 1), (899, .iadd, 1), (900, .iaload, 1), (901, .invokevirtual 112, 3), (904, .if_icmp .eq 885, 3), (907, .iconst 0, 1),
  (908, .ireturn, 1), (909, .aload_n 1, 1), (910, .aload_n 0, 1), (911, .iload_n 3, 1), (912, .iconst 1, 1), (913, .iadd, 1),
  (914, .iaload, 1), (915, .invokevirtual 113, 3), (918, .aload_n 2, 1), (919, .aload_n 0, 1), (920, .iload_n 3, 1), (921, .iconst 1, 1),
  (922, .iadd, 1), (923, .iaload, 1), (924, .invokevirtual 116, 3), (927, .if_icmp .eq 862, 3), (930, .iconst 0, 1), (931, .ireturn, 1),
  (932, .aload_n 1, 1), (933, .aload_n 0, 1), (934, .iload_n 3, 1), (935, .iconst 1, 1), (936, .iadd, 1), (937, .iaload, 1),
  (938, .aload_n 0, 1), (939, .iload_n 3, 1), (940, .iconst 2, 1), (941, .iadd, 1), (942, .iaload, 1), (943, .invokevirtual 117, 3),
  (946, .aload_n 2, 1), (947, .aload_n 0, 1), (948, .iload_n 3, 1), (949, .iconst 1, 1)]
set_option maxRecDepth 100000 in
theorem K_Lw_13 : T_Lw_13.all (fun e => decide (decode code e.1 = .ok e.2)) = true := by decide +kernel
def T_Lw_14 : List (Nat × Instr × Nat) := [
  (950, .iadd, 1), (951, .iaload, 1), (952, .aload_n 0, 1), (953, .iload_n 3, 1), (954, .iconst 2, 1), (955, .iadd, 1),
  (956, .iaload, 1), (957, .invokevirtual 120, 3), (960, .if_icmp .eq 829, 3), (963, .iconst 0, 1), (964, .ireturn, 1), (965, .aload_n 1, 1),
  (966, .aload_n 0, 1), (967, .iload_n 3, 1), (968, .iconst 1, 1), (969, .iadd, 1), (970, .iaload, 1), (971, .invokevirtual 121, 3),
  (974, .aload_n 2, 1), (975, .aload_n 0, 1), (976, .iload_n 3, 1), (977, .iconst 1, 1), (978, .iadd, 1), (979, .iaload, 1),
  (980, .invokevirtual 124, 3), (983, .if_icmp .eq 806, 3), (986, .iconst 0, 1), (987, .ireturn, 1), (988, .aload_n 1, 1), (989, .aload_n 0, 1),
  (990, .iload_n 3, 1), (991, .iconst 1, 1), (992, .iadd, 1), (993, .iaload, 1), (994, .aload_n 0, 1), (995, .iload_n 3, 1),
  (996, .iconst 2, 1), (997, .iadd, 1), (998, .iaload, 1), (999, .invokevirtual 125, 3)]
set_option maxRecDepth 100000 in
theorem K_Lw_14 : T_Lw_14.all (fun e => decide (decode code e.1 = .ok e.2)) = true := by decide +kernel
def T_Lw_15 : List (Nat × Instr × Nat) := [
  (1002, .aload_n 2, 1), (1003, .aload_n 0, 1), (1004, .iload_n 3, 1), (1005, .iconst 1, 1), (1006, .iadd, 1), (1007, .iaload, 1),
  (1008, .aload_n 0, 1), (1009, .iload_n 3, 1), (1010, .iconst 2, 1), (1011, .iadd, 1), (1012, .iaload, 1), (1013, .invokevirtual 128, 3),
  (1016, .if_icmp .eq 773, 3), (1019, .iconst 0, 1), (1020, .ireturn, 1), (1021, .aload_n 1, 1), (1022, .aload_n 0, 1), (1023, .iload_n 3, 1),
  (1024, .iconst 1, 1), (1025, .iadd, 1), (1026, .iaload, 1), (1027, .aload_n 0, 1), (1028, .iload_n 3, 1), (1029, .iconst 2, 1),
  (1030, .iadd, 1), (1031, .iaload, 1), (1032, .invokevirtual 129, 3), (1035, .aload_n 2, 1), (1036, .aload_n 0, 1), (1037, .iload_n 3, 1),
  (1038, .iconst 1, 1), (1039, .iadd, 1), (1040, .iaload, 1), (1041, .aload_n 0, 1), (1042, .iload_n 3, 1), (1043, .iconst 2, 1),
  (1044, .iadd, 1), (1045, .iaload, 1), (1046, .invokevirtual 132, 3), (1049, .if_icmp .eq 740, 3)]
set_option maxRecDepth 100000 in
theorem K_Lw_15 : T_Lw_15.all (fun e => decide (decode code e.1 = .ok e.2)) = true := by decide +kernel
def T_Lw_16 : List (Nat × Instr × Nat) := [
  (1052, .iconst 0, 1), (1053, .ireturn, 1), (1054, .aload_n 1, 1), (1055, .aload_n 0, 1), (1056, .iload_n 3, 1), (1057, .iconst 1, 1),
  (1058, .iadd, 1), (1059, .iaload, 1), (1060, .invokevirtual 133, 3), (1063, .aload_n 2, 1), (1064, .aload_n 0, 1), (1065, .iload_n 3, 1),
  (1066, .iconst 1, 1), (1067, .iadd, 1), (1068, .iaload, 1), (1069, .invokevirtual 136, 3), (1072, .if_icmp .eq 717, 3), (1075, .iconst 0, 1),
  (1076, .ireturn, 1), (1077, .aload_n 1, 1), (1078, .aload_n 0, 1), (1079, .iload_n 3, 1), (1080, .iconst 1, 1), (1081, .iadd, 1),
  (1082, .iaload, 1), (1083, .invokevirtual 137, 3), (1086, .aload_n 2, 1), (1087, .aload_n 0, 1), (1088, .iload_n 3, 1), (1089, .iconst 1, 1),
  (1090, .iadd, 1), (1091, .iaload, 1), (1092, .invokevirtual 140, 3), (1095, .if_icmp .eq 694, 3), (1098, .iconst 0, 1), (1099, .ireturn, 1),
  (1100, .aload_n 1, 1), (1101, .aload_n 0, 1), (1102, .iload_n 3, 1), (1103, .iconst 1, 1)]
set_option maxRecDepth 100000 in
theorem K_Lw_16 : T_Lw_16.all (fun e => decide (decode code e.1 = .ok e.2)) = true := by decide +kernel
def T_Lw_17 : List (Nat × Instr × Nat) := [
  (1104, .iadd, 1), (1105, .iaload, 1), (1106, .aload_n 0, 1), (1107, .iload_n 3, 1), (1108, .iconst 2, 1), (1109, .iadd, 1),
  (1110, .iaload, 1), (1111, .aload_n 0, 1), (1112, .iload_n 3, 1), (1113, .iconst 3, 1), (1114, .iadd, 1), (1115, .iaload, 1),
  (1116, .aload_n 0, 1), (1117, .iload_n 3, 1), (1118, .iconst 4, 1), (1119, .iadd, 1), (1120, .iaload, 1), (1121, .invokevirtual 141, 3),
  (1124, .aload_n 2, 1), (1125, .aload_n 0, 1), (1126, .iload_n 3, 1), (1127, .iconst 1, 1), (1128, .iadd, 1), (1129, .iaload, 1),
  (1130, .aload_n 0, 1), (1131, .iload_n 3, 1), (1132, .iconst 2, 1), (1133, .iadd, 1), (1134, .iaload, 1), (1135, .aload_n 0, 1),
  (1136, .iload_n 3, 1), (1137, .iconst 3, 1), (1138, .iadd, 1), (1139, .iaload, 1), (1140, .aload_n 0, 1), (1141, .iload_n 3, 1),
  (1142, .iconst 4, 1), (1143, .iadd, 1), (1144, .iaload, 1), (1145, .invokevirtual 144, 3)]
set_option maxRecDepth 100000 in
theorem K_Lw_17 : T_Lw_17.all (fun e => decide (decode code e.1 = .ok e.2)) = true := by decide +kernel
def T_Lw_18 : List (Nat × Instr × Nat) := [
  (1148, .if_icmp .eq 641, 3), (1151, .iconst 0, 1), (1152, .ireturn, 1), (1153, .aload_n 1, 1), (1154, .invokevirtual 145, 3), (1157, .aload_n 2, 1),
  (1158, .invokevirtual 148, 3), (1161, .if_icmp .eq 628, 3), (1164, .iconst 0, 1), (1165, .ireturn, 1), (1166, .aload_n 1, 1), (1167, .aload_n 0, 1),
  (1168, .iload_n 3, 1), (1169, .iconst 1, 1), (1170, .iadd, 1), (1171, .iaload, 1), (1172, .invokevirtual 149, 3), (1175, .aload_n 2, 1),
  (1176, .aload_n 0, 1), (1177, .iload_n 3, 1), (1178, .iconst 1, 1), (1179, .iadd, 1), (1180, .iaload, 1), (1181, .invokevirtual 152, 3),
  (1184, .if_icmp .eq 605, 3), (1187, .iconst 0, 1), (1188, .ireturn, 1), (1189, .aload_n 1, 1), (1190, .invokevirtual 153, 3), (1193, .aload_n 2, 1),
  (1194, .invokevirtual 156, 3), (1197, .if_icmp .eq 592, 3), (1200, .iconst 0, 1), (1201, .ireturn, 1), (1202, .aload_n 1, 1), (1203, .aload_n 0, 1),
  (1204, .iload_n 3, 1), (1205, .iconst 1, 1), (1206, .iadd, 1), (1207, .iaload, 1)]
set_option maxRecDepth 100000 in
theorem K_Lw_18 : T_Lw_18.all (fun e => decide (decode code e.1 = .ok e.2)) = true := by decide +kernel
def T_Lw_19 : List (Nat × Instr × Nat) := [
  (1208, .invokevirtual 157, 3), (1211, .aload_n 2, 1), (1212, .aload_n 0, 1), (1213, .iload_n 3, 1), (1214, .iconst 1, 1), (1215, .iadd, 1),
  (1216, .iaload, 1), (1217, .invokevirtual 160, 3), (1220, .if_icmp .eq 569, 3), (1223, .iconst 0, 1), (1224, .ireturn, 1), (1225, .aload_n 1, 1),
  (1226, .invokevirtual 161, 3), (1229, .aload_n 2, 1), (1230, .invokevirtual 164, 3), (1233, .if_icmp .eq 556, 3), (1236, .iconst 0, 1), (1237, .ireturn, 1),
  (1238, .aload_n 1, 1), (1239, .aload_n 0, 1), (1240, .iload_n 3, 1), (1241, .iconst 1, 1), (1242, .iadd, 1), (1243, .iaload, 1),
  (1244, .aload_n 0, 1), (1245, .iload_n 3, 1), (1246, .iconst 2, 1), (1247, .iadd, 1), (1248, .iaload, 1), (1249, .invokevirtual 165, 3),
  (1252, .aload_n 2, 1), (1253, .aload_n 0, 1), (1254, .iload_n 3, 1), (1255, .iconst 1, 1), (1256, .iadd, 1), (1257, .iaload, 1),
  (1258, .aload_n 0, 1), (1259, .iload_n 3, 1), (1260, .iconst 2, 1), (1261, .iadd, 1)]
set_option maxRecDepth 100000 in
theorem K_Lw_19 : T_Lw_19.all (fun e => decide (decode code e.1 = .ok e.2)) = true := by decide +kernel
def T_Lw_20 : List (Nat × Instr × Nat) := [
  (1262, .iaload, 1), (1263, .invokevirtual 168, 3), (1266, .if_icmp .eq 523, 3), (1269, .iconst 0, 1), (1270, .ireturn, 1), (1271, .aload_n 1, 1),
  (1272, .aload_n 0, 1), (1273, .iload_n 3, 1), (1274, .iconst 1, 1), (1275, .iadd, 1), (1276, .iaload, 1), (1277, .invokevirtual 169, 3),
  (1280, .aload_n 2, 1), (1281, .aload_n 0, 1), (1282, .iload_n 3, 1), (1283, .iconst 1, 1), (1284, .iadd, 1), (1285, .iaload, 1),
  (1286, .invokevirtual 172, 3), (1289, .if_icmp .eq 500, 3), (1292, .iconst 0, 1), (1293, .ireturn, 1), (1294, .aload_n 1, 1), (1295, .aload_n 0, 1),
  (1296, .iload_n 3, 1), (1297, .iconst 1, 1), (1298, .iadd, 1), (1299, .iaload, 1), (1300, .aload_n 0, 1), (1301, .iload_n 3, 1),
  (1302, .iconst 2, 1), (1303, .iadd, 1), (1304, .iaload, 1), (1305, .invokevirtual 173, 3), (1308, .aload_n 2, 1), (1309, .aload_n 0, 1),
  (1310, .iload_n 3, 1), (1311, .iconst 1, 1), (1312, .iadd, 1), (1313, .iaload, 1)]
set_option maxRecDepth 100000 in
theorem K_Lw_20 : T_Lw_20.all (fun e => decide (decode code e.1 = .ok e.2)) = true := by decide +kernel
def T_Lw_21 : List (Nat × Instr × Nat) := [
  (1314, .aload_n 0, 1), (1315, .iload_n 3, 1), (1316, .iconst 2, 1), (1317, .iadd, 1), (1318, .iaload, 1), (1319, .invokevirtual 176, 3),
  (1322, .if_icmp .eq 467, 3), (1325, .iconst 0, 1), (1326, .ireturn, 1), (1327, .aload_n 1, 1), (1328, .aload_n 0, 1), (1329, .iload_n 3, 1),
  (1330, .iconst 1, 1), (1331, .iadd, 1), (1332, .iaload, 1), (1333, .aload_n 0, 1), (1334, .iload_n 3, 1), (1335, .iconst 2, 1),
  (1336, .iadd, 1), (1337, .iaload, 1), (1338, .aload_n 0, 1), (1339, .iload_n 3, 1), (1340, .iconst 3, 1), (1341, .iadd, 1),
  (1342, .iaload, 1), (1343, .invokevirtual 177, 3), (1346, .aload_n 2, 1), (1347, .aload_n 0, 1), (1348, .iload_n 3, 1), (1349, .iconst 1, 1),
  (1350, .iadd, 1), (1351, .iaload, 1), (1352, .aload_n 0, 1), (1353, .iload_n 3, 1), (1354, .iconst 2, 1), (1355, .iadd, 1),
  (1356, .iaload, 1), (1357, .aload_n 0, 1), (1358, .iload_n 3, 1), (1359, .iconst 3, 1)]
set_option maxRecDepth 100000 in
theorem K_Lw_21 : T_Lw_21.all (fun e => decide (decode code e.1 = .ok e.2)) = true := by decide +kernel
def T_Lw_22 : List (Nat × Instr × Nat) := [
  (1360, .iadd, 1), (1361, .iaload, 1), (1362, .invokevirtual 180, 3), (1365, .if_icmp .eq 424, 3), (1368, .iconst 0, 1), (1369, .ireturn, 1),
  (1370, .aload_n 1, 1), (1371, .invokevirtual 181, 3), (1374, .aload_n 2, 1), (1375, .invokevirtual 184, 3), (1378, .if_icmp .eq 411, 3), (1381, .iconst 0, 1),
  (1382, .ireturn, 1), (1383, .aload_n 1, 1), (1384, .aload_n 0, 1), (1385, .iload_n 3, 1), (1386, .iconst 1, 1), (1387, .iadd, 1),
  (1388, .iaload, 1), (1389, .aload_n 0, 1), (1390, .iload_n 3, 1), (1391, .iconst 2, 1), (1392, .iadd, 1), (1393, .iaload, 1),
  (1394, .aload_n 0, 1), (1395, .iload_n 3, 1), (1396, .iconst 3, 1), (1397, .iadd, 1), (1398, .iaload, 1), (1399, .invokevirtual 185, 3),
  (1402, .aload_n 2, 1), (1403, .aload_n 0, 1), (1404, .iload_n 3, 1), (1405, .iconst 1, 1), (1406, .iadd, 1), (1407, .iaload, 1),
  (1408, .aload_n 0, 1), (1409, .iload_n 3, 1), (1410, .iconst 2, 1), (1411, .iadd, 1)]
set_option maxRecDepth 100000 in
theorem K_Lw_22 : T_Lw_22.all (fun e => decide (decode code e.1 = .ok e.2)) = true := by decide +kernel
def T_Lw_23 : List (Nat × Instr × Nat) := [
  (1412, .iaload, 1), (1413, .aload_n 0, 1), (1414, .iload_n 3, 1), (1415, .iconst 3, 1), (1416, .iadd, 1), (1417, .iaload, 1),
  (1418, .invokevirtual 188, 3), (1421, .if_icmp .eq 368, 3), (1424, .iconst 0, 1), (1425, .ireturn, 1), (1426, .aload_n 1, 1), (1427, .aload_n 0, 1),
  (1428, .iload_n 3, 1), (1429, .iconst 1, 1), (1430, .iadd, 1), (1431, .iaload, 1), (1432, .aload_n 0, 1), (1433, .iload_n 3, 1),
  (1434, .iconst 2, 1), (1435, .iadd, 1), (1436, .iaload, 1), (1437, .aload_n 0, 1), (1438, .iload_n 3, 1), (1439, .iconst 3, 1),
  (1440, .iadd, 1), (1441, .iaload, 1), (1442, .invokevirtual 189, 3), (1445, .aload_n 2, 1), (1446, .aload_n 0, 1), (1447, .iload_n 3, 1),
  (1448, .iconst 1, 1), (1449, .iadd, 1), (1450, .iaload, 1), (1451, .aload_n 0, 1), (1452, .iload_n 3, 1), (1453, .iconst 2, 1),
  (1454, .iadd, 1), (1455, .iaload, 1), (1456, .aload_n 0, 1), (1457, .iload_n 3, 1)]
set_option maxRecDepth 100000 in
theorem K_Lw_23 : T_Lw_23.all (fun e => decide (decode code e.1 = .ok e.2)) = true := by decide +kernel
def T_Lw_24 : List (Nat × Instr × Nat) := [
  (1458, .iconst 3, 1), (1459, .iadd, 1), (1460, .iaload, 1), (1461, .invokevirtual 192, 3), (1464, .if_icmp .eq 325, 3), (1467, .iconst 0, 1),
  (1468, .ireturn, 1), (1469, .aload_n 1, 1), (1470, .aload_n 0, 1), (1471, .iload_n 3, 1), (1472, .iconst 1, 1), (1473, .iadd, 1),
  (1474, .iaload, 1), (1475, .aload_n 0, 1), (1476, .iload_n 3, 1), (1477, .iconst 2, 1), (1478, .iadd, 1), (1479, .iaload, 1),
  (1480, .aload_n 0, 1), (1481, .iload_n 3, 1), (1482, .iconst 3, 1), (1483, .iadd, 1), (1484, .iaload, 1), (1485, .invokevirtual 193, 3),
  (1488, .aload_n 2, 1), (1489, .aload_n 0, 1), (1490, .iload_n 3, 1), (1491, .iconst 1, 1), (1492, .iadd, 1), (1493, .iaload, 1),
  (1494, .aload_n 0, 1), (1495, .iload_n 3, 1), (1496, .iconst 2, 1), (1497, .iadd, 1), (1498, .iaload, 1), (1499, .aload_n 0, 1),
  (1500, .iload_n 3, 1), (1501, .iconst 3, 1), (1502, .iadd, 1), (1503, .iaload, 1)]
set_option maxRecDepth 100000 in
theorem K_Lw_24 : T_Lw_24.all (fun e => decide (decode code e.1 = .ok e.2)) = true := by decide +kernel
def T_Lw_25 : List (Nat × Instr × Nat) := [
  (1504, .invokevirtual 196, 3), (1507, .if_icmp .eq 282, 3), (1510, .iconst 0, 1), (1511, .ireturn, 1), (1512, .aload_n 1, 1), (1513, .aload_n 0, 1),
  (1514, .iload_n 3, 1), (1515, .iconst 1, 1), (1516, .iadd, 1), (1517, .iaload, 1), (1518, .aload_n 0, 1), (1519, .iload_n 3, 1),
  (1520, .iconst 2, 1), (1521, .iadd, 1), (1522, .iaload, 1), (1523, .aload_n 0, 1), (1524, .iload_n 3, 1), (1525, .iconst 3, 1),
  (1526, .iadd, 1), (1527, .iaload, 1), (1528, .invokevirtual 197, 3), (1531, .aload_n 2, 1), (1532, .aload_n 0, 1), (1533, .iload_n 3, 1),
  (1534, .iconst 1, 1), (1535, .iadd, 1), (1536, .iaload, 1), (1537, .aload_n 0, 1), (1538, .iload_n 3, 1), (1539, .iconst 2, 1),
  (1540, .iadd, 1), (1541, .iaload, 1), (1542, .aload_n 0, 1), (1543, .iload_n 3, 1), (1544, .iconst 3, 1), (1545, .iadd, 1),
  (1546, .iaload, 1), (1547, .invokevirtual 200, 3), (1550, .if_icmp .eq 239, 3), (1553, .iconst 0, 1)]
set_option maxRecDepth 100000 in
theorem K_Lw_25 : T_Lw_25.all (fun e => decide (decode code e.1 = .ok e.2)) = true := by decide +kernel
def T_Lw_26 : List (Nat × Instr × Nat) := [
  (1554, .ireturn, 1), (1555, .aload_n 1, 1), (1556, .aload_n 0, 1), (1557, .iload_n 3, 1), (1558, .iconst 1, 1), (1559, .iadd, 1),
  (1560, .iaload, 1), (1561, .aload_n 0, 1), (1562, .iload_n 3, 1), (1563, .iconst 2, 1), (1564, .iadd, 1), (1565, .iaload, 1),
  (1566, .aload_n 0, 1), (1567, .iload_n 3, 1), (1568, .iconst 3, 1), (1569, .iadd, 1), (1570, .iaload, 1), (1571, .invokevirtual 201, 3),
  (1574, .aload_n 2, 1), (1575, .aload_n 0, 1), (1576, .iload_n 3, 1), (1577, .iconst 1, 1), (1578, .iadd, 1), (1579, .iaload, 1),
  (1580, .aload_n 0, 1), (1581, .iload_n 3, 1), (1582, .iconst 2, 1), (1583, .iadd, 1), (1584, .iaload, 1), (1585, .aload_n 0, 1),
  (1586, .iload_n 3, 1), (1587, .iconst 3, 1), (1588, .iadd, 1), (1589, .iaload, 1), (1590, .invokevirtual 204, 3), (1593, .if_icmp .eq 196, 3),
  (1596, .iconst 0, 1), (1597, .ireturn, 1), (1598, .aload_n 1, 1), (1599, .aload_n 0, 1)]
set_option maxRecDepth 100000 in
theorem K_Lw_26 : T_Lw_26.all (fun e => decide (decode code e.1 = .ok e.2)) = true := by decide +kernel
def T_Lw_27 : List (Nat × Instr × Nat) := [
  (1600, .iload_n 3, 1), (1601, .iconst 1, 1), (1602, .iadd, 1), (1603, .iaload, 1), (1604, .aload_n 0, 1), (1605, .iload_n 3, 1),
  (1606, .iconst 2, 1), (1607, .iadd, 1), (1608, .iaload, 1), (1609, .aload_n 0, 1), (1610, .iload_n 3, 1), (1611, .iconst 3, 1),
  (1612, .iadd, 1), (1613, .iaload, 1), (1614, .invokevirtual 205, 3), (1617, .aload_n 2, 1), (1618, .aload_n 0, 1), (1619, .iload_n 3, 1),
  (1620, .iconst 1, 1), (1621, .iadd, 1), (1622, .iaload, 1), (1623, .aload_n 0, 1), (1624, .iload_n 3, 1), (1625, .iconst 2, 1),
  (1626, .iadd, 1), (1627, .iaload, 1), (1628, .aload_n 0, 1), (1629, .iload_n 3, 1), (1630, .iconst 3, 1), (1631, .iadd, 1),
  (1632, .iaload, 1), (1633, .invokevirtual 208, 3), (1636, .if_icmp .eq 153, 3), (1639, .iconst 0, 1), (1640, .ireturn, 1), (1641, .aload_n 1, 1),
  (1642, .aload_n 0, 1), (1643, .iload_n 3, 1), (1644, .iconst 1, 1), (1645, .iadd, 1)]
set_option maxRecDepth 100000 in
theorem K_Lw_27 : T_Lw_27.all (fun e => decide (decode code e.1 = .ok e.2)) = true := by decide +kernel
def T_Lw_28 : List (Nat × Instr × Nat) := [
  (1646, .iaload, 1), (1647, .aload_n 0, 1), (1648, .iload_n 3, 1), (1649, .iconst 2, 1), (1650, .iadd, 1), (1651, .iaload, 1),
  (1652, .invokevirtual 209, 3), (1655, .aload_n 2, 1), (1656, .aload_n 0, 1), (1657, .iload_n 3, 1), (1658, .iconst 1, 1), (1659, .iadd, 1),
  (1660, .iaload, 1), (1661, .aload_n 0, 1), (1662, .iload_n 3, 1), (1663, .iconst 2, 1), (1664, .iadd, 1), (1665, .iaload, 1),
  (1666, .invokevirtual 212, 3), (1669, .if_icmp .eq 120, 3), (1672, .iconst 0, 1), (1673, .ireturn, 1), (1674, .aload_n 1, 1), (1675, .aload_n 0, 1),
  (1676, .iload_n 3, 1), (1677, .iconst 1, 1), (1678, .iadd, 1), (1679, .iaload, 1), (1680, .aload_n 0, 1), (1681, .iload_n 3, 1),
  (1682, .iconst 2, 1), (1683, .iadd, 1), (1684, .iaload, 1), (1685, .aload_n 0, 1), (1686, .iload_n 3, 1), (1687, .iconst 3, 1),
  (1688, .iadd, 1), (1689, .iaload, 1), (1690, .invokevirtual 213, 3), (1693, .aload_n 2, 1)]
set_option maxRecDepth 100000 in
theorem K_Lw_28 : T_Lw_28.all (fun e => decide (decode code e.1 = .ok e.2)) = true := by decide +kernel
def T_Lw_29 : List (Nat × Instr × Nat) := [
  (1694, .aload_n 0, 1), (1695, .iload_n 3, 1), (1696, .iconst 1, 1), (1697, .iadd, 1), (1698, .iaload, 1), (1699, .aload_n 0, 1),
  (1700, .iload_n 3, 1), (1701, .iconst 2, 1), (1702, .iadd, 1), (1703, .iaload, 1), (1704, .aload_n 0, 1), (1705, .iload_n 3, 1),
  (1706, .iconst 3, 1), (1707, .iadd, 1), (1708, .iaload, 1), (1709, .invokevirtual 216, 3), (1712, .if_icmp .eq 77, 3), (1715, .iconst 0, 1),
  (1716, .ireturn, 1), (1717, .aload_n 1, 1), (1718, .aload_n 0, 1), (1719, .iload_n 3, 1), (1720, .iconst 1, 1), (1721, .iadd, 1),
  (1722, .iaload, 1), (1723, .invokevirtual 217, 3), (1726, .aload_n 2, 1), (1727, .aload_n 0, 1), (1728, .iload_n 3, 1), (1729, .iconst 1, 1),
  (1730, .iadd, 1), (1731, .iaload, 1), (1732, .invokevirtual 220, 3), (1735, .if_icmp .eq 54, 3), (1738, .iconst 0, 1), (1739, .ireturn, 1),
  (1740, .aload_n 1, 1), (1741, .aload_n 0, 1), (1742, .iload_n 3, 1), (1743, .iconst 1, 1)]
set_option maxRecDepth 100000 in
theorem K_Lw_29 : T_Lw_29.all (fun e => decide (decode code e.1 = .ok e.2)) = true := by decide +kernel
def T_Lw_30 : List (Nat × Instr × Nat) := [
  (1744, .iadd, 1), (1745, .iaload, 1), (1746, .invokevirtual 221, 3), (1749, .aload_n 2, 1), (1750, .aload_n 0, 1), (1751, .iload_n 3, 1),
  (1752, .iconst 1, 1), (1753, .iadd, 1), (1754, .iaload, 1), (1755, .invokevirtual 224, 3), (1758, .if_icmp .eq 31, 3), (1761, .iconst 0, 1),
  (1762, .ireturn, 1), (1763, .aload_n 1, 1), (1764, .invokevirtual 225, 3), (1767, .aload_n 2, 1), (1768, .invokevirtual 228, 3), (1771, .if_icmp .eq 18, 3),
  (1774, .iconst 0, 1), (1775, .ireturn, 1), (1776, .aload_n 1, 1), (1777, .invokevirtual 229, 3), (1780, .aload_n 2, 1), (1781, .invokevirtual 232, 3),
  (1784, .if_icmp .eq 5, 3), (1787, .iconst 0, 1), (1788, .ireturn, 1), (1789, .iinc 3 5, 3), (1792, .goto (-1774), 3), (1795, .iconst 1, 1),
  (1796, .ireturn, 1)]
set_option maxRecDepth 100000 in
theorem K_Lw_30 : T_Lw_30.all (fun e => decide (decode code e.1 = .ok e.2)) = true := by decide +kernel
def M_Lw_law : zM := ("WindBridesLaw", x, code, 4, ret, T_Lw_0 ++ (T_Lw_1 ++ (T_Lw_2 ++ (T_Lw_3 ++ (T_Lw_4 ++ (T_Lw_5 ++ (T_Lw_6 ++ (T_Lw_7 ++ (T_Lw_8 ++ (T_Lw_9 ++ (T_Lw_10 ++ (T_Lw_11 ++ (T_Lw_12 ++ (T_Lw_13 ++ (T_Lw_14 ++ (T_Lw_15 ++ (T_Lw_16 ++ (T_Lw_17 ++ (T_Lw_18 ++ (T_Lw_19 ++ (T_Lw_20 ++ (T_Lw_21 ++ (T_Lw_22 ++ (T_Lw_23 ++ (T_Lw_24 ++ (T_Lw_25 ++ (T_Lw_26 ++ (T_Lw_27 ++ (T_Lw_28 ++ (T_Lw_29 ++ (T_Lw_30)))))))))))))))))))))))))))))))
theorem K_Lw_law : mOk M_Lw_law := by
  show (T_Lw_0 ++ (T_Lw_1 ++ (T_Lw_2 ++ (T_Lw_3 ++ (T_Lw_4 ++ (T_Lw_5 ++ (T_Lw_6 ++ (T_Lw_7 ++ (T_Lw_8 ++ (T_Lw_9 ++ (T_Lw_10 ++ (T_Lw_11 ++ (T_Lw_12 ++ (T_Lw_13 ++ (T_Lw_14 ++ (T_Lw_15 ++ (T_Lw_16 ++ (T_Lw_17 ++ (T_Lw_18 ++ (T_Lw_19 ++ (T_Lw_20 ++ (T_Lw_21 ++ (T_Lw_22 ++ (T_Lw_23 ++ (T_Lw_24 ++ (T_Lw_25 ++ (T_Lw_26 ++ (T_Lw_27 ++ (T_Lw_28 ++ (T_Lw_29 ++ (T_Lw_30))))))))))))))))))))))))))))))).all (fun e => decide (decode code e.1 = .ok e.2)) = true
  simp only [List.all_append, K_Lw_0, K_Lw_1, K_Lw_2, K_Lw_3, K_Lw_4, K_Lw_5, K_Lw_6, K_Lw_7, K_Lw_8, K_Lw_9, K_Lw_10, K_Lw_11, K_Lw_12, K_Lw_13, K_Lw_14, K_Lw_15, K_Lw_16, K_Lw_17, K_Lw_18, K_Lw_19, K_Lw_20, K_Lw_21, K_Lw_22, K_Lw_23, K_Lw_24, K_Lw_25, K_Lw_26, K_Lw_27, K_Lw_28, K_Lw_29, K_Lw_30, Bool.and_self]

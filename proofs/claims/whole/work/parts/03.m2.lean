def M_Wb_init : zM := ("WindBrides", ⟨"WindBrides", "<init>", "()V"⟩, prog_1_method_1_code, 1, none, [
  (0, .aload_n 0, 1), (1, .invokespecial 1, 3), (4, .aload_n 0, 1), (5, .new 7, 3), (8, .dup, 1), (9, .invokespecial 9, 3),
  (12, .putfield 10, 3), (15, .aload_n 0, 1), (16, .new 7, 3), (19, .dup, 1), (20, .invokespecial 9, 3), (23, .putfield 16, 3),
  (26, .aload_n 0, 1), (27, .new 19, 3), (30, .dup, 1), (31, .invokespecial 21, 3), (34, .putfield 22, 3), (37, .aload_n 0, 1),
  (38, .new 26, 3), (41, .dup, 1), (42, .invokespecial 28, 3), (45, .putfield 29, 3), (48, .aload_n 0, 1), (49, .new 33, 3),
  (52, .dup, 1), (53, .invokespecial 35, 3), (56, .putfield 36, 3), (59, .aload_n 0, 1), (60, .new 40, 3), (63, .dup, 1),
  (64, .invokespecial 42, 3), (67, .putfield 43, 3), (70, .aload_n 0, 1), (71, .iconst 4, 1), (72, .newarray .int, 2), (74, .dup, 1),
  (75, .iconst 0, 1), (76, .iconst (-1), 1), (77, .iastore, 1), (78, .dup, 1), (79, .iconst 1, 1), (80, .iconst (-1), 1),
  (81, .iastore, 1), (82, .dup, 1), (83, .iconst 2, 1), (84, .iconst (-1), 1), (85, .iastore, 1), (86, .dup, 1),
  (87, .iconst 3, 1), (88, .iconst (-1), 1), (89, .iastore, 1), (90, .putfield 47, 3), (93, .aload_n 0, 1), (94, .iconst 4, 1),
  (95, .newarray .int, 2), (97, .putfield 51, 3), (100, .aload_n 0, 1), (101, .sipush 160, 3), (104, .newarray .int, 2), (106, .putfield 54, 3),
  (109, .aload_n 0, 1), (110, .iconst 4, 1), (111, .newarray .int, 2), (113, .dup, 1), (114, .iconst 0, 1), (115, .iconst 2, 1),
  (116, .iastore, 1), (117, .dup, 1), (118, .iconst 1, 1), (119, .iconst 2, 1), (120, .iastore, 1), (121, .dup, 1),
  (122, .iconst 2, 1), (123, .iconst 2, 1), (124, .iastore, 1), (125, .dup, 1), (126, .iconst 3, 1), (127, .iconst 2, 1),
  (128, .iastore, 1), (129, .putfield 57, 3), (132, .aload_n 0, 1), (133, .iconst 4, 1), (134, .newarray .int, 2), (136, .putfield 60, 3),
  (139, .aload_n 0, 1), (140, .iconst 4, 1), (141, .newarray .int, 2), (143, .putfield 63, 3), (146, .aload_n 0, 1), (147, .bipush 30, 2),
  (149, .newarray .int, 2), (151, .putfield 66, 3), (154, .return_, 1)])
set_option maxRecDepth 100000 in
theorem K_Wb_init : mOk M_Wb_init := by decide +kernel
def M_Wb_girl : zM := ("WindBrides", ⟨"WindBrides", "girl", "(III)I"⟩, prog_1_method_6_code, 4, (some .int), [
  (0, .iload_n 1, 1), (1, .iconst 1, 1), (2, .iconst 5, 1), (3, .invokestatic 72, 3), (6, .ifCond .eq 23, 3), (9, .iload_n 2, 1),
  (10, .iconst 0, 1), (11, .bipush 7, 2), (13, .invokestatic 72, 3), (16, .ifCond .eq 13, 3), (19, .iload_n 3, 1), (20, .iconst 1, 1),
  (21, .bipush 9, 2), (23, .invokestatic 72, 3), (26, .ifCond .ne 5, 3), (29, .iconst (-1), 1), (30, .ireturn, 1), (31, .aload_n 0, 1),
  (32, .getfield 10, 3), (35, .getfield 76, 3), (38, .bipush 6, 2), (40, .if_icmp .ne 6, 3), (43, .bipush (-2), 2), (45, .ireturn, 1),
  (46, .aload_n 0, 1), (47, .getfield 10, 3), (50, .iload_n 1, 1), (51, .iload_n 2, 1), (52, .iload_n 3, 1), (53, .invokevirtual 80, 3),
  (56, .ireturn, 1)])
set_option maxRecDepth 100000 in
theorem K_Wb_girl : mOk M_Wb_girl := by decide +kernel
def M_Wb_within : zM := ("WindBrides", ⟨"WindBrides", "within", "(III)Z"⟩, prog_1_method_2_code, 3, (some .boolean), [
  (0, .iload_n 0, 1), (1, .iload_n 1, 1), (2, .if_icmp .lt 12, 3), (5, .iload_n 0, 1), (6, .iload_n 2, 1), (7, .if_icmp .gt 7, 3),
  (10, .iconst 1, 1), (11, .goto 4, 3), (14, .iconst 0, 1), (15, .ireturn, 1)])
set_option maxRecDepth 100000 in
theorem K_Wb_within : mOk M_Wb_within := by decide +kernel
def M_Wb_girlOf : zM := ("WindBrides", ⟨"WindBrides", "girlOf", "(II)I"⟩, prog_1_method_7_code, 3, (some .int), [
  (0, .aload_n 0, 1), (1, .getfield 10, 3), (4, .iload_n 1, 1), (5, .invokevirtual 84, 3), (8, .ifCond .ne 5, 3), (11, .iconst (-1), 1),
  (12, .ireturn, 1), (13, .iload_n 2, 1), (14, .tableswitch 110 0 5 #[38, 48, 58, 68, 81, 94], 38), (52, .aload_n 0, 1), (53, .getfield 10, 3), (56, .getfield 88, 3),
  (59, .iload_n 1, 1), (60, .iaload, 1), (61, .ireturn, 1), (62, .aload_n 0, 1), (63, .getfield 10, 3), (66, .getfield 91, 3),
  (69, .iload_n 1, 1), (70, .iaload, 1), (71, .ireturn, 1), (72, .aload_n 0, 1), (73, .getfield 10, 3), (76, .getfield 94, 3),
  (79, .iload_n 1, 1), (80, .iaload, 1), (81, .ireturn, 1), (82, .aload_n 0, 1), (83, .getfield 10, 3), (86, .getfield 97, 3),
  (89, .getfield 100, 3), (92, .iload_n 1, 1), (93, .iaload, 1), (94, .ireturn, 1), (95, .aload_n 0, 1), (96, .getfield 10, 3),
  (99, .getfield 97, 3), (102, .getfield 103, 3), (105, .iload_n 1, 1), (106, .iaload, 1), (107, .ireturn, 1), (108, .aload_n 0, 1),
  (109, .getfield 10, 3), (112, .getfield 97, 3), (115, .aload_n 0, 1), (116, .getfield 10, 3), (119, .iload_n 1, 1), (120, .invokevirtual 106, 3),
  (123, .ireturn, 1), (124, .iconst (-1), 1), (125, .ireturn, 1)])
set_option maxRecDepth 100000 in
theorem K_Wb_girlOf : mOk M_Wb_girlOf := by decide +kernel
def M_Wb_isUnder : zM := ("WindBrides", ⟨"WindBrides", "isUnder", "(II)Z"⟩, prog_1_method_3_code, 2, (some .boolean), [
  (0, .getstatic 69, 3), (3, .iload_n 0, 1), (4, .iaload, 1), (5, .iload_n 1, 1), (6, .ishr, 1), (7, .iconst 1, 1),
  (8, .iand, 1), (9, .ifCond .eq 7, 3), (12, .iconst 1, 1), (13, .goto 4, 3), (16, .iconst 0, 1), (17, .ireturn, 1)])
set_option maxRecDepth 100000 in
theorem K_Wb_isUnder : mOk M_Wb_isUnder := by decide +kernel
def M_Wb_change : zM := ("WindBrides", ⟨"WindBrides", "change", "(III)I"⟩, prog_1_method_8_code, 5, (some .int), [
  (0, .aload_n 0, 1), (1, .getfield 10, 3), (4, .iload_n 1, 1), (5, .invokevirtual 84, 3), (8, .ifCond .ne 5, 3), (11, .iconst (-1), 1),
  (12, .ireturn, 1), (13, .iload_n 2, 1), (14, .iconst 1, 1), (15, .if_icmp .ne 37, 3), (18, .iload_n 3, 1), (19, .iconst 0, 1),
  (20, .bipush 7, 2), (22, .invokestatic 72, 3), (25, .ifCond .eq 27, 3), (28, .aload_n 0, 1), (29, .getfield 10, 3), (32, .getfield 91, 3),
  (35, .iload_n 1, 1), (36, .iaload, 1), (37, .istore 4, 2), (39, .aload_n 0, 1), (40, .getfield 10, 3), (43, .getfield 91, 3),
  (46, .iload_n 1, 1), (47, .iload_n 3, 1), (48, .iastore, 1), (49, .iload 4, 2), (51, .ireturn, 1), (52, .iload_n 2, 1),
  (53, .iconst 2, 1), (54, .if_icmp .ne 37, 3), (57, .iload_n 3, 1), (58, .iconst 1, 1), (59, .bipush 9, 2), (61, .invokestatic 72, 3),
  (64, .ifCond .eq 27, 3), (67, .aload_n 0, 1), (68, .getfield 10, 3), (71, .getfield 94, 3), (74, .iload_n 1, 1), (75, .iaload, 1),
  (76, .istore 4, 2), (78, .aload_n 0, 1), (79, .getfield 10, 3), (82, .getfield 94, 3), (85, .iload_n 1, 1), (86, .iload_n 3, 1),
  (87, .iastore, 1), (88, .iload 4, 2), (90, .ireturn, 1), (91, .iconst (-1), 1), (92, .ireturn, 1)])
set_option maxRecDepth 100000 in
theorem K_Wb_change : mOk M_Wb_change := by decide +kernel
def M_Wb_remake : zM := ("WindBrides", ⟨"WindBrides", "remake", "(II)I"⟩, prog_1_method_9_code, 4, (some .int), [
  (0, .aload_n 0, 1), (1, .getfield 10, 3), (4, .iload_n 1, 1), (5, .invokevirtual 84, 3), (8, .ifCond .eq 12, 3), (11, .iload_n 2, 1),
  (12, .iconst 1, 1), (13, .iconst 5, 1), (14, .invokestatic 72, 3), (17, .ifCond .ne 5, 3), (20, .iconst (-1), 1), (21, .ireturn, 1),
  (22, .aload_n 0, 1), (23, .getfield 10, 3), (26, .getfield 88, 3), (29, .iload_n 1, 1), (30, .iaload, 1), (31, .istore_n 3, 1),
  (32, .aload_n 0, 1), (33, .getfield 10, 3), (36, .getfield 88, 3), (39, .iload_n 1, 1), (40, .iload_n 2, 1), (41, .iastore, 1),
  (42, .iload_n 3, 1), (43, .ireturn, 1)])
set_option maxRecDepth 100000 in
theorem K_Wb_remake : mOk M_Wb_remake := by decide +kernel
def M_Wb_wind : zM := ("WindBrides", ⟨"WindBrides", "wind", "(IIII)I"⟩, prog_1_method_10_code, 5, (some .int), [
  (0, .iload_n 1, 1), (1, .iconst 0, 1), (2, .bipush 7, 2), (4, .invokestatic 72, 3), (7, .ifCond .eq 34, 3), (10, .iload_n 2, 1),
  (11, .iconst 1, 1), (12, .bipush 9, 2), (14, .invokestatic 72, 3), (17, .ifCond .eq 24, 3), (20, .iload_n 3, 1), (21, .iconst 0, 1),
  (22, .bipush 15, 2), (24, .invokestatic 72, 3), (27, .ifCond .eq 14, 3), (30, .iload 4, 2), (32, .iload_n 3, 1), (33, .bipush 15, 2),
  (35, .invokestatic 72, 3), (38, .ifCond .ne 5, 3), (41, .iconst (-1), 1), (42, .ireturn, 1), (43, .aload_n 0, 1), (44, .getfield 10, 3),
  (47, .getfield 110, 3), (50, .bipush 6, 2), (52, .if_icmp .ne 6, 3), (55, .bipush (-2), 2), (57, .ireturn, 1), (58, .aload_n 0, 1),
  (59, .getfield 10, 3), (62, .iload_n 1, 1), (63, .iload_n 2, 1), (64, .iload_n 3, 1), (65, .iload 4, 2), (67, .invokevirtual 113, 3),
  (70, .ireturn, 1)])
set_option maxRecDepth 100000 in
theorem K_Wb_wind : mOk M_Wb_wind := by decide +kernel
def M_Wb_windOf : zM := ("WindBrides", ⟨"WindBrides", "windOf", "(II)I"⟩, prog_1_method_11_code, 3, (some .int), [
  (0, .aload_n 0, 1), (1, .getfield 10, 3), (4, .iload_n 1, 1), (5, .invokevirtual 117, 3), (8, .ifCond .ne 5, 3), (11, .iconst (-1), 1),
  (12, .ireturn, 1), (13, .iload_n 2, 1), (14, .tableswitch 121 0 5 #[38, 48, 58, 68, 78, 94], 38), (52, .aload_n 0, 1), (53, .getfield 10, 3), (56, .getfield 120, 3),
  (59, .iload_n 1, 1), (60, .iaload, 1), (61, .ireturn, 1), (62, .aload_n 0, 1), (63, .getfield 10, 3), (66, .getfield 123, 3),
  (69, .iload_n 1, 1), (70, .iaload, 1), (71, .ireturn, 1), (72, .aload_n 0, 1), (73, .getfield 10, 3), (76, .getfield 126, 3),
  (79, .iload_n 1, 1), (80, .iaload, 1), (81, .ireturn, 1), (82, .aload_n 0, 1), (83, .getfield 10, 3), (86, .getfield 129, 3),
  (89, .iload_n 1, 1), (90, .iaload, 1), (91, .ireturn, 1), (92, .aload_n 0, 1), (93, .getfield 10, 3), (96, .getfield 97, 3),
  (99, .aload_n 0, 1), (100, .getfield 10, 3), (103, .iload_n 1, 1), (104, .invokevirtual 132, 3), (107, .ireturn, 1), (108, .aload_n 0, 1),
  (109, .getfield 10, 3), (112, .iload_n 1, 1), (113, .aload_n 0, 1), (114, .getfield 10, 3), (117, .getfield 97, 3), (120, .getfield 135, 3),
  (123, .invokevirtual 138, 3), (126, .ifCond .eq 7, 3), (129, .iconst 1, 1), (130, .goto 4, 3), (133, .iconst 0, 1), (134, .ireturn, 1),
  (135, .iconst (-1), 1), (136, .ireturn, 1)])
set_option maxRecDepth 100000 in
theorem K_Wb_windOf : mOk M_Wb_windOf := by decide +kernel
def M_Wb_promise : zM := ("WindBrides", ⟨"WindBrides", "promise", "(II)I"⟩, prog_1_method_12_code, 4, (some .int), [
  (0, .aload_n 0, 1), (1, .getfield 10, 3), (4, .iload_n 1, 1), (5, .invokevirtual 84, 3), (8, .ifCond .eq 19, 3), (11, .iload_n 2, 1),
  (12, .iconst (-1), 1), (13, .if_icmp .eq 16, 3), (16, .aload_n 0, 1), (17, .getfield 10, 3), (20, .iload_n 2, 1), (21, .invokevirtual 117, 3),
  (24, .ifCond .ne 5, 3), (27, .iconst (-1), 1), (28, .ireturn, 1), (29, .aload_n 0, 1), (30, .getfield 10, 3), (33, .getfield 97, 3),
  (36, .getfield 100, 3), (39, .iload_n 1, 1), (40, .iaload, 1), (41, .istore_n 3, 1), (42, .aload_n 0, 1), (43, .getfield 10, 3),
  (46, .getfield 97, 3), (49, .aload_n 0, 1), (50, .getfield 10, 3), (53, .iload_n 1, 1), (54, .iload_n 2, 1), (55, .iconst (-1), 1),
  (56, .if_icmp .ne 8, 3), (59, .bipush 6, 2), (61, .goto 4, 3), (64, .iload_n 2, 1), (65, .invokevirtual 142, 3), (68, .iload_n 3, 1),
  (69, .ireturn, 1)])
set_option maxRecDepth 100000 in
theorem K_Wb_promise : mOk M_Wb_promise := by decide +kernel
def M_Wb_gain : zM := ("WindBrides", ⟨"WindBrides", "gain", "(III)I"⟩, prog_1_method_13_code, 4, (some .int), [
  (0, .aload_n 0, 1), (1, .getfield 10, 3), (4, .iload_n 1, 1), (5, .invokevirtual 84, 3), (8, .ifCond .eq 24, 3), (11, .aload_n 0, 1),
  (12, .getfield 10, 3), (15, .iload_n 2, 1), (16, .invokevirtual 117, 3), (19, .ifCond .eq 13, 3), (22, .iload_n 3, 1), (23, .iconst 0, 1),
  (24, .bipush 15, 2), (26, .invokestatic 72, 3), (29, .ifCond .ne 5, 3), (32, .iconst (-1), 1), (33, .ireturn, 1), (34, .aload_n 0, 1),
  (35, .getfield 10, 3), (38, .iload_n 1, 1), (39, .iload_n 2, 1), (40, .iload_n 3, 1), (41, .invokevirtual 146, 3), (44, .ireturn, 1)])
set_option maxRecDepth 100000 in
theorem K_Wb_gain : mOk M_Wb_gain := by decide +kernel
def M_Wb_turnBetween : zM := ("WindBrides", ⟨"WindBrides", "turnBetween", "(II)I"⟩, prog_1_method_4_code, 3, (some .int), [
  (0, .iload_n 0, 1), (1, .iload_n 1, 1), (2, .if_icmp .le 9, 3), (5, .iload_n 0, 1), (6, .iload_n 1, 1), (7, .isub, 1),
  (8, .goto 6, 3), (11, .iload_n 1, 1), (12, .iload_n 0, 1), (13, .isub, 1), (14, .istore_n 2, 1), (15, .iload_n 2, 1),
  (16, .bipush 8, 2), (18, .iload_n 2, 1), (19, .isub, 1), (20, .if_icmp .le 10, 3), (23, .bipush 8, 2), (25, .iload_n 2, 1),
  (26, .isub, 1), (27, .goto 4, 3), (30, .iload_n 2, 1), (31, .ireturn, 1)])
set_option maxRecDepth 100000 in
theorem K_Wb_turnBetween : mOk M_Wb_turnBetween := by decide +kernel
def M_Wb_gainOf : zM := ("WindBrides", ⟨"WindBrides", "gainOf", "(IIII)I"⟩, prog_1_method_5_code, 7, (some .int), [
  (0, .iload_n 1, 1), (1, .iload_n 2, 1), (2, .if_icmp .le 9, 3), (5, .iload_n 1, 1), (6, .iload_n 2, 1), (7, .isub, 1),
  (8, .goto 4, 3), (11, .iconst 0, 1), (12, .istore 4, 2), (14, .iload_n 1, 1), (15, .iload_n 2, 1), (16, .iconst 2, 1),
  (17, .idiv, 1), (18, .if_icmp .le 11, 3), (21, .iload_n 1, 1), (22, .iload_n 2, 1), (23, .iconst 2, 1), (24, .idiv, 1),
  (25, .isub, 1), (26, .goto 4, 3), (29, .iconst 0, 1), (30, .istore 5, 2), (32, .iload_n 3, 1), (33, .iconst 3, 1),
  (34, .if_icmp .ge 7, 3), (37, .iconst 0, 1), (38, .goto 5, 3), (41, .iload 4, 2), (43, .istore 6, 2), (45, .iload_n 0, 1),
  (46, .tableswitch 58 1 5 #[34, 39, 42, 47, 50], 34), (80, .iload 4, 2), (82, .iconst 2, 1), (83, .idiv, 1), (84, .ireturn, 1), (85, .iload 5, 2),
  (87, .ireturn, 1), (88, .iload 5, 2), (90, .iconst 1, 1), (91, .iadd, 1), (92, .ireturn, 1), (93, .iload 6, 2),
  (95, .ireturn, 1), (96, .iload 6, 2), (98, .bipush 9, 2), (100, .iadd, 1), (101, .iload_n 1, 1), (102, .isub, 1),
  (103, .ireturn, 1), (104, .iload 4, 2), (106, .ireturn, 1)])
set_option maxRecDepth 100000 in
theorem K_Wb_gainOf : mOk M_Wb_gainOf := by decide +kernel
def M_Wb_ends : zM := ("WindBrides", ⟨"WindBrides", "ends", "(I)I"⟩, prog_1_method_14_code, 3, (some .int), [
  (0, .iload_n 1, 1), (1, .iconst 1, 1), (2, .bipush 16, 2), (4, .invokestatic 72, 3), (7, .ifCond .ne 5, 3), (10, .iconst (-1), 1),
  (11, .ireturn, 1), (12, .iload_n 1, 1), (13, .aload_n 0, 1), (14, .getfield 10, 3), (17, .getfield 97, 3), (20, .getfield 135, 3),
  (23, .if_icmp .ge 6, 3), (26, .bipush (-4), 2), (28, .ireturn, 1), (29, .aload_n 0, 1), (30, .getfield 10, 3), (33, .getfield 149, 3),
  (36, .istore_n 2, 1), (37, .aload_n 0, 1), (38, .getfield 10, 3), (41, .iload_n 1, 1), (42, .putfield 149, 3), (45, .iload_n 2, 1),
  (46, .ireturn, 1)])
set_option maxRecDepth 100000 in
theorem K_Wb_ends : mOk M_Wb_ends := by decide +kernel
def M_Wb_anew : zM := ("WindBrides", ⟨"WindBrides", "anew", "()I"⟩, prog_1_method_15_code, 3, (some .int), [
  (0, .aload_n 0, 1), (1, .getfield 10, 3), (4, .getfield 97, 3), (7, .getfield 135, 3), (10, .istore_n 1, 1), (11, .aload_n 0, 1),
  (12, .getfield 10, 3), (15, .getfield 97, 3), (18, .iconst 0, 1), (19, .putfield 135, 3), (22, .aload_n 0, 1), (23, .getfield 10, 3),
  (26, .iconst 0, 1), (27, .putfield 152, 3), (30, .iconst 0, 1), (31, .istore_n 2, 1), (32, .iload_n 2, 1), (33, .aload_n 0, 1),
  (34, .getfield 10, 3), (37, .getfield 76, 3), (40, .if_icmp .ge 30, 3), (43, .aload_n 0, 1), (44, .getfield 10, 3), (47, .getfield 97, 3),
  (50, .getfield 103, 3), (53, .iload_n 2, 1), (54, .aload_n 0, 1), (55, .getfield 10, 3), (58, .getfield 94, 3), (61, .iload_n 2, 1),
  (62, .iaload, 1), (63, .iastore, 1), (64, .iinc 2 1, 3), (67, .goto (-35), 3), (70, .iload_n 1, 1), (71, .ireturn, 1)])
set_option maxRecDepth 100000 in
theorem K_Wb_anew : mOk M_Wb_anew := by decide +kernel
def M_Wb_state : zM := ("WindBrides", ⟨"WindBrides", "state", "(I)I"⟩, prog_1_method_16_code, 2, (some .int), [
  (0, .iload_n 1, 1), (1, .tableswitch 74 0 3 #[31, 42, 50, 58], 31), (32, .aload_n 0, 1), (33, .getfield 10, 3), (36, .getfield 97, 3), (39, .getfield 135, 3),
  (42, .ireturn, 1), (43, .aload_n 0, 1), (44, .getfield 10, 3), (47, .getfield 149, 3), (50, .ireturn, 1), (51, .aload_n 0, 1),
  (52, .getfield 10, 3), (55, .getfield 152, 3), (58, .ireturn, 1), (59, .aload_n 0, 1), (60, .getfield 10, 3), (63, .invokevirtual 155, 3),
  (66, .ifCond .eq 7, 3), (69, .iconst 1, 1), (70, .goto 4, 3), (73, .iconst 0, 1), (74, .ireturn, 1), (75, .iconst (-1), 1),
  (76, .ireturn, 1)])
set_option maxRecDepth 100000 in
theorem K_Wb_state : mOk M_Wb_state := by decide +kernel
def M_Wb_feed : zM := ("WindBrides", ⟨"WindBrides", "feed", "(JI)I"⟩, prog_1_method_17_code, 4, (some .int), [
  (0, .iload_n 3, 1), (1, .iconst 1, 1), (2, .bipush 8, 2), (4, .invokestatic 72, 3), (7, .ifCond .ne 5, 3), (10, .iconst (-1), 1),
  (11, .ireturn, 1), (12, .aload_n 0, 1), (13, .getfield 29, 3), (16, .iload_n 3, 1), (17, .invokevirtual 159, 3), (20, .ifCond .ne 6, 3),
  (23, .bipush (-2), 2), (25, .ireturn, 1), (26, .aload_n 0, 1), (27, .getfield 29, 3), (30, .lload_n 1, 1), (31, .iload_n 3, 1),
  (32, .invokevirtual 162, 3), (35, .ireturn, 1)])
set_option maxRecDepth 100000 in
theorem K_Wb_feed : mOk M_Wb_feed := by decide +kernel
def M_Wb_rules : zM := ("WindBrides", ⟨"WindBrides", "rules", "()I"⟩, prog_1_method_18_code, 2, (some .int), [
  (0, .aload_n 0, 1), (1, .getfield 29, 3), (4, .aload_n 0, 1), (5, .getfield 36, 3), (8, .invokevirtual 166, 3), (11, .istore_n 1, 1),
  (12, .iload_n 1, 1), (13, .ifCond .lt 17, 3), (16, .aload_n 0, 1), (17, .getfield 10, 3), (20, .getfield 170, 3), (23, .aload_n 0, 1),
  (24, .getfield 36, 3), (27, .invokevirtual 173, 3), (30, .iload_n 1, 1), (31, .ireturn, 1)])
set_option maxRecDepth 100000 in
theorem K_Wb_rules : mOk M_Wb_rules := by decide +kernel
def M_Wb_month : zM := ("WindBrides", ⟨"WindBrides", "month", "()I"⟩, prog_1_method_19_code, 1, (some .int), [
  (0, .aload_n 0, 1), (1, .getfield 10, 3), (4, .invokevirtual 155, 3), (7, .ifCond .eq 8, 3), (10, .bipush (-4), 2), (12, .goto 8, 3),
  (15, .aload_n 0, 1), (16, .iconst 0, 1), (17, .invokevirtual 177, 3), (20, .ireturn, 1)])
set_option maxRecDepth 100000 in
theorem K_Wb_month : mOk M_Wb_month := by decide +kernel
def M_Wb_passMonth : zM := ("WindBrides", ⟨"WindBrides", "passMonth", "(I)I"⟩, prog_1_method_20_code, 3, (some .int), [
  (0, .aload_n 0, 1), (1, .getfield 10, 3), (4, .getfield 97, 3), (7, .aload_n 0, 1), (8, .getfield 10, 3), (11, .iload_n 1, 1),
  (12, .invokevirtual 181, 3), (15, .istore_n 2, 1), (16, .aload_n 0, 1), (17, .getfield 10, 3), (20, .dup, 1), (21, .getfield 152, 3),
  (24, .iload_n 2, 1), (25, .iadd, 1), (26, .putfield 152, 3), (29, .iload_n 2, 1), (30, .ireturn, 1)])
set_option maxRecDepth 100000 in
theorem K_Wb_passMonth : mOk M_Wb_passMonth := by decide +kernel
def M_Wb_on : zM := ("WindBrides", ⟨"WindBrides", "on", "(I)I"⟩, prog_1_method_21_code, 4, (some .int), [
  (0, .iload_n 1, 1), (1, .iconst 0, 1), (2, .bipush 16, 2), (4, .invokestatic 72, 3), (7, .ifCond .ne 5, 3), (10, .iconst (-1), 1),
  (11, .ireturn, 1), (12, .aload_n 0, 1), (13, .getfield 22, 3), (16, .aload_n 0, 1), (17, .getfield 10, 3), (20, .getfield 97, 3),
  (23, .invokevirtual 184, 3), (26, .iconst 0, 1), (27, .istore_n 2, 1), (28, .iconst 0, 1), (29, .istore_n 3, 1), (30, .iload_n 3, 1),
  (31, .iload_n 1, 1), (32, .if_icmp .ge 41, 3), (35, .aload_n 0, 1), (36, .getfield 22, 3), (39, .getfield 135, 3), (42, .aload_n 0, 1),
  (43, .getfield 10, 3), (46, .getfield 149, 3), (49, .if_icmp .ge 24, 3), (52, .iload_n 2, 1), (53, .aload_n 0, 1), (54, .getfield 22, 3),
  (57, .aload_n 0, 1), (58, .getfield 10, 3), (61, .iconst 0, 1), (62, .invokevirtual 181, 3), (65, .iadd, 1), (66, .istore_n 2, 1),
  (67, .iinc 3 1, 3), (70, .goto (-40), 3), (73, .iload_n 2, 1), (74, .ireturn, 1)])
set_option maxRecDepth 100000 in
theorem K_Wb_on : mOk M_Wb_on := by decide +kernel
def M_Wb_courted : zM := ("WindBrides", ⟨"WindBrides", "courted", "(I)I"⟩, prog_1_method_22_code, 4, (some .int), [
  (0, .aload_n 0, 1), (1, .getfield 10, 3), (4, .iload_n 1, 1), (5, .invokevirtual 84, 3), (8, .ifCond .ne 5, 3), (11, .iconst (-1), 1),
  (12, .ireturn, 1), (13, .aload_n 0, 1), (14, .getfield 22, 3), (17, .aload_n 0, 1), (18, .getfield 10, 3), (21, .getfield 97, 3),
  (24, .invokevirtual 184, 3), (27, .iconst 0, 1), (28, .istore_n 2, 1), (29, .aload_n 0, 1), (30, .getfield 22, 3), (33, .getfield 135, 3),
  (36, .istore_n 3, 1), (37, .iload_n 3, 1), (38, .aload_n 0, 1), (39, .getfield 10, 3), (42, .getfield 149, 3), (45, .if_icmp .ge 36, 3),
  (48, .aload_n 0, 1), (49, .getfield 22, 3), (52, .aload_n 0, 1), (53, .getfield 10, 3), (56, .iconst 0, 1), (57, .invokevirtual 181, 3),
  (60, .pop, 1), (61, .iload_n 2, 1), (62, .aload_n 0, 1), (63, .getfield 22, 3), (66, .getfield 187, 3), (69, .iload_n 1, 1),
  (70, .ishr, 1), (71, .iconst 1, 1), (72, .iand, 1), (73, .iadd, 1), (74, .istore_n 2, 1), (75, .iinc 3 1, 3),
  (78, .goto (-41), 3), (81, .iload_n 2, 1), (82, .ireturn, 1)])
set_option maxRecDepth 100000 in
theorem K_Wb_courted : mOk M_Wb_courted := by decide +kernel
def M_Wb_breaks : zM := ("WindBrides", ⟨"WindBrides", "breaks", "(I)I"⟩, prog_1_method_23_code, 4, (some .int), [
  (0, .aload_n 0, 1), (1, .getfield 10, 3), (4, .iload_n 1, 1), (5, .invokevirtual 84, 3), (8, .ifCond .ne 5, 3), (11, .iconst (-1), 1),
  (12, .ireturn, 1), (13, .aload_n 0, 1), (14, .getfield 10, 3), (17, .getfield 97, 3), (20, .getfield 100, 3), (23, .iload_n 1, 1),
  (24, .iaload, 1), (25, .istore_n 2, 1), (26, .iload_n 2, 1), (27, .bipush 6, 2), (29, .if_icmp .ne 6, 3), (32, .bipush (-3), 2),
  (34, .ireturn, 1), (35, .aload_n 0, 1), (36, .getfield 22, 3), (39, .aload_n 0, 1), (40, .getfield 10, 3), (43, .getfield 97, 3),
  (46, .invokevirtual 184, 3), (49, .aload_n 0, 1), (50, .getfield 22, 3), (53, .getfield 135, 3), (56, .istore_n 3, 1), (57, .iload_n 3, 1),
  (58, .aload_n 0, 1), (59, .getfield 10, 3), (62, .getfield 149, 3), (65, .if_icmp .ge 37, 3), (68, .aload_n 0, 1), (69, .getfield 22, 3),
  (72, .aload_n 0, 1), (73, .getfield 10, 3), (76, .iconst 0, 1), (77, .invokevirtual 181, 3), (80, .pop, 1), (81, .aload_n 0, 1),
  (82, .getfield 22, 3), (85, .getfield 100, 3), (88, .iload_n 1, 1), (89, .iaload, 1), (90, .iload_n 2, 1), (91, .if_icmp .eq 5, 3),
  (94, .iload_n 3, 1), (95, .ireturn, 1), (96, .iinc 3 1, 3), (99, .goto (-42), 3), (102, .bipush (-3), 2), (104, .ireturn, 1)])
set_option maxRecDepth 100000 in
theorem K_Wb_breaks : mOk M_Wb_breaks := by decide +kernel
def M_Wb_windFor : zM := ("WindBrides", ⟨"WindBrides", "windFor", "(I)I"⟩, prog_1_method_25_code, 7, (some .int), [
  (0, .aload_n 0, 1), (1, .getfield 10, 3), (4, .iload_n 1, 1), (5, .invokevirtual 84, 3), (8, .ifCond .ne 5, 3), (11, .iconst (-1), 1),
  (12, .ireturn, 1), (13, .bipush 6, 2), (15, .istore_n 2, 1), (16, .iconst (-1), 1), (17, .istore_n 3, 1), (18, .iconst 0, 1),
  (19, .istore 4, 2), (21, .iload 4, 2), (23, .aload_n 0, 1), (24, .getfield 10, 3), (27, .getfield 110, 3), (30, .if_icmp .gt 76, 3),
  (33, .iload 4, 2), (35, .aload_n 0, 1), (36, .getfield 10, 3), (39, .getfield 110, 3), (42, .if_icmp .ge 8, 3), (45, .iload 4, 2),
  (47, .goto 5, 3), (50, .bipush 6, 2), (52, .istore 5, 2), (54, .aload_n 0, 1), (55, .getfield 22, 3), (58, .aload_n 0, 1),
  (59, .getfield 10, 3), (62, .getfield 97, 3), (65, .invokevirtual 184, 3), (68, .aload_n 0, 1), (69, .getfield 22, 3), (72, .aload_n 0, 1),
  (73, .getfield 10, 3), (76, .iload_n 1, 1), (77, .iload 5, 2), (79, .invokevirtual 142, 3), (82, .aload_n 0, 1), (83, .invokevirtual 190, 3),
  (86, .istore 6, 2), (88, .iload 6, 2), (90, .iload_n 3, 1), (91, .if_icmp .le 9, 3), (94, .iload 6, 2), (96, .istore_n 3, 1),
  (97, .iload 5, 2), (99, .istore_n 2, 1), (100, .iinc 4 1, 3), (103, .goto (-82), 3), (106, .iload_n 2, 1), (107, .ireturn, 1)])
set_option maxRecDepth 100000 in
theorem K_Wb_windFor : mOk M_Wb_windFor := by decide +kernel
def M_Wb_trialRest : zM := ("WindBrides", ⟨"WindBrides", "trialRest", "()I"⟩, prog_1_method_24_code, 3, (some .int), [
  (0, .iconst 0, 1), (1, .istore_n 1, 1), (2, .aload_n 0, 1), (3, .getfield 22, 3), (6, .getfield 135, 3), (9, .istore_n 2, 1),
  (10, .iload_n 2, 1), (11, .aload_n 0, 1), (12, .getfield 10, 3), (15, .getfield 149, 3), (18, .if_icmp .ge 24, 3), (21, .iload_n 1, 1),
  (22, .aload_n 0, 1), (23, .getfield 22, 3), (26, .aload_n 0, 1), (27, .getfield 10, 3), (30, .iconst 0, 1), (31, .invokevirtual 181, 3),
  (34, .iadd, 1), (35, .istore_n 1, 1), (36, .iinc 2 1, 3), (39, .goto (-29), 3), (42, .iload_n 1, 1), (43, .ireturn, 1)])
set_option maxRecDepth 100000 in
theorem K_Wb_trialRest : mOk M_Wb_trialRest := by decide +kernel
def M_Wb_dowryFor : zM := ("WindBrides", ⟨"WindBrides", "dowryFor", "(I)I"⟩, prog_1_method_26_code, 7, (some .int), [
  (0, .aload_n 0, 1), (1, .getfield 10, 3), (4, .iload_n 1, 1), (5, .invokevirtual 84, 3), (8, .ifCond .ne 5, 3), (11, .iconst (-1), 1),
  (12, .ireturn, 1), (13, .aload_n 0, 1), (14, .getfield 10, 3), (17, .getfield 94, 3), (20, .iload_n 1, 1), (21, .iaload, 1),
  (22, .istore_n 2, 1), (23, .iconst 1, 1), (24, .istore_n 3, 1), (25, .iconst (-1), 1), (26, .istore 4, 2), (28, .iconst 1, 1),
  (29, .istore 5, 2), (31, .iload 5, 2), (33, .bipush 9, 2), (35, .if_icmp .gt 65, 3), (38, .aload_n 0, 1), (39, .getfield 10, 3),
  (42, .getfield 94, 3), (45, .iload_n 1, 1), (46, .iload 5, 2), (48, .iastore, 1), (49, .aload_n 0, 1), (50, .getfield 22, 3),
  (53, .aload_n 0, 1), (54, .getfield 10, 3), (57, .getfield 97, 3), (60, .invokevirtual 184, 3), (63, .aload_n 0, 1), (64, .getfield 22, 3),
  (67, .getfield 103, 3), (70, .iload_n 1, 1), (71, .iload 5, 2), (73, .iastore, 1), (74, .aload_n 0, 1), (75, .invokevirtual 190, 3),
  (78, .istore 6, 2), (80, .iload 6, 2), (82, .iload 4, 2), (84, .if_icmp .le 10, 3), (87, .iload 6, 2), (89, .istore 4, 2),
  (91, .iload 5, 2), (93, .istore_n 3, 1), (94, .iinc 5 1, 3), (97, .goto (-66), 3), (100, .aload_n 0, 1), (101, .getfield 10, 3),
  (104, .getfield 94, 3), (107, .iload_n 1, 1), (108, .iload_n 2, 1), (109, .iastore, 1), (110, .iload_n 3, 1), (111, .ireturn, 1)])
set_option maxRecDepth 100000 in
theorem K_Wb_dowryFor : mOk M_Wb_dowryFor := by decide +kernel
def M_Wb_leave : zM := ("WindBrides", ⟨"WindBrides", "leave", "()I"⟩, prog_1_method_27_code, 4, (some .int), [
  (0, .iconst 0, 1), (1, .istore_n 1, 1), (2, .iconst 0, 1), (3, .istore_n 2, 1), (4, .iload_n 2, 1), (5, .aload_n 0, 1),
  (6, .getfield 10, 3), (9, .getfield 76, 3), (12, .if_icmp .ge 48, 3), (15, .iconst 0, 1), (16, .istore_n 3, 1), (17, .iload_n 3, 1),
  (18, .aload_n 0, 1), (19, .getfield 10, 3), (22, .getfield 110, 3), (25, .if_icmp .ge 29, 3), (28, .iload_n 1, 1), (29, .aload_n 0, 1),
  (30, .getfield 10, 3), (33, .iload_n 2, 1), (34, .iload_n 3, 1), (35, .invokevirtual 194, 3), (38, .ifCond .eq 7, 3), (41, .iconst 1, 1),
  (42, .goto 4, 3), (45, .iconst 0, 1), (46, .iadd, 1), (47, .istore_n 1, 1), (48, .iinc 3 1, 3), (51, .goto (-34), 3),
  (54, .iinc 2 1, 3), (57, .goto (-53), 3), (60, .iload_n 1, 1), (61, .ireturn, 1)])
set_option maxRecDepth 100000 in
theorem K_Wb_leave : mOk M_Wb_leave := by decide +kernel
def M_Wb_first : zM := ("WindBrides", ⟨"WindBrides", "first", "()I"⟩, prog_1_method_28_code, 3, (some .int), [
  (0, .iconst 0, 1), (1, .istore_n 1, 1), (2, .iload_n 1, 1), (3, .aload_n 0, 1), (4, .getfield 10, 3), (7, .getfield 76, 3),
  (10, .if_icmp .ge 47, 3), (13, .iconst 0, 1), (14, .istore_n 2, 1), (15, .iload_n 2, 1), (16, .aload_n 0, 1), (17, .getfield 10, 3),
  (20, .getfield 110, 3), (23, .if_icmp .ge 28, 3), (26, .aload_n 0, 1), (27, .getfield 10, 3), (30, .iload_n 1, 1), (31, .iload_n 2, 1),
  (32, .invokevirtual 194, 3), (35, .ifCond .eq 10, 3), (38, .bipush 10, 2), (40, .iload_n 1, 1), (41, .imul, 1), (42, .iload_n 2, 1),
  (43, .iadd, 1), (44, .ireturn, 1), (45, .iinc 2 1, 3), (48, .goto (-33), 3), (51, .iinc 1 1, 3), (54, .goto (-52), 3),
  (57, .bipush (-3), 2), (59, .ireturn, 1)])
set_option maxRecDepth 100000 in
theorem K_Wb_first : mOk M_Wb_first := by decide +kernel
def M_Wb_kept : zM := ("WindBrides", ⟨"WindBrides", "kept", "(I)I"⟩, prog_1_method_29_code, 2, (some .int), [
  (0, .aload_n 0, 1), (1, .getfield 10, 3), (4, .iload_n 1, 1), (5, .invokevirtual 84, 3), (8, .ifCond .eq 14, 3), (11, .aload_n 0, 1),
  (12, .getfield 10, 3), (15, .iload_n 1, 1), (16, .invokevirtual 197, 3), (19, .goto 4, 3), (22, .iconst (-1), 1), (23, .ireturn, 1)])
set_option maxRecDepth 100000 in
theorem K_Wb_kept : mOk M_Wb_kept := by decide +kernel
def M_Wb_ring : zM := ("WindBrides", ⟨"WindBrides", "ring", "(I)I"⟩, prog_1_method_30_code, 2, (some .int), [
  (0, .aload_n 0, 1), (1, .getfield 10, 3), (4, .iload_n 1, 1), (5, .invokevirtual 84, 3), (8, .ifCond .eq 14, 3), (11, .aload_n 0, 1),
  (12, .getfield 10, 3), (15, .iload_n 1, 1), (16, .invokevirtual 200, 3), (19, .goto 4, 3), (22, .iconst (-1), 1), (23, .ireturn, 1)])
set_option maxRecDepth 100000 in
theorem K_Wb_ring : mOk M_Wb_ring := by decide +kernel
def M_Wb_best : zM := ("WindBrides", ⟨"WindBrides", "best", "(I)I"⟩, prog_1_method_33_code, 2, (some .int), [
  (0, .iload_n 1, 1), (1, .invokestatic 203, 3), (4, .ifCond .ne 5, 3), (7, .iconst (-1), 1), (8, .ireturn, 1), (9, .aload_n 0, 1),
  (10, .getfield 43, 3), (13, .aload_n 0, 1), (14, .getfield 10, 3), (17, .iload_n 1, 1), (18, .iconst 0, 1), (19, .invokevirtual 206, 3),
  (22, .aload_n 0, 1), (23, .getfield 43, 3), (26, .getfield 209, 3), (29, .ireturn, 1)])
set_option maxRecDepth 100000 in
theorem K_Wb_best : mOk M_Wb_best := by decide +kernel
def M_Wb_isPlanLength : zM := ("WindBrides", ⟨"WindBrides", "isPlanLength", "(I)Z"⟩, prog_1_method_31_code, 1, (some .boolean), [
  (0, .iload_n 0, 1), (1, .iconst 0, 1), (2, .iconst 4, 1), (3, .invokestatic 72, 3), (6, .ireturn, 1)])
set_option maxRecDepth 100000 in
theorem K_Wb_isPlanLength : mOk M_Wb_isPlanLength := by decide +kernel
def M_Wb_ith : zM := ("WindBrides", ⟨"WindBrides", "ith", "(II)I"⟩, prog_1_method_34_code, 3, (some .int), [
  (0, .iload_n 1, 1), (1, .invokestatic 203, 3), (4, .ifCond .eq 12, 3), (7, .iload_n 2, 1), (8, .iconst 0, 1), (9, .iconst 3, 1),
  (10, .invokestatic 72, 3), (13, .ifCond .ne 5, 3), (16, .iconst (-1), 1), (17, .ireturn, 1), (18, .aload_n 0, 1), (19, .getfield 43, 3),
  (22, .aload_n 0, 1), (23, .getfield 10, 3), (26, .iload_n 1, 1), (27, .iconst 0, 1), (28, .invokevirtual 206, 3), (31, .iload_n 2, 1),
  (32, .aload_n 0, 1), (33, .getfield 43, 3), (36, .getfield 212, 3), (39, .if_icmp .ge 15, 3), (42, .aload_n 0, 1), (43, .getfield 43, 3),
  (46, .getfield 215, 3), (49, .iload_n 2, 1), (50, .iaload, 1), (51, .goto 5, 3), (54, .bipush (-3), 2), (56, .ireturn, 1)])
set_option maxRecDepth 100000 in
theorem K_Wb_ith : mOk M_Wb_ith := by decide +kernel
def M_Wb_ways : zM := ("WindBrides", ⟨"WindBrides", "ways", "(I)I"⟩, prog_1_method_35_code, 2, (some .int), [
  (0, .iload_n 1, 1), (1, .invokestatic 203, 3), (4, .ifCond .ne 5, 3), (7, .iconst (-1), 1), (8, .ireturn, 1), (9, .aload_n 0, 1),
  (10, .getfield 43, 3), (13, .aload_n 0, 1), (14, .getfield 10, 3), (17, .iload_n 1, 1), (18, .iconst 0, 1), (19, .invokevirtual 206, 3),
  (22, .aload_n 0, 1), (23, .getfield 43, 3), (26, .getfield 218, 3), (29, .ireturn, 1)])
set_option maxRecDepth 100000 in
theorem K_Wb_ways : mOk M_Wb_ways := by decide +kernel
def M_Wb_bound : zM := ("WindBrides", ⟨"WindBrides", "bound", "(II)I"⟩, prog_1_method_36_code, 3, (some .int), [
  (0, .iload_n 1, 1), (1, .invokestatic 203, 3), (4, .ifCond .eq 11, 3), (7, .aload_n 0, 1), (8, .iload_n 2, 1), (9, .invokevirtual 221, 3),
  (12, .ifCond .ne 5, 3), (15, .iconst (-1), 1), (16, .ireturn, 1), (17, .aload_n 0, 1), (18, .getfield 43, 3), (21, .aload_n 0, 1),
  (22, .getfield 10, 3), (25, .iload_n 1, 1), (26, .iload_n 2, 1), (27, .invokevirtual 206, 3), (30, .aload_n 0, 1), (31, .getfield 43, 3),
  (34, .getfield 224, 3), (37, .iconst 4, 1), (38, .if_icmp .gt 13, 3), (41, .aload_n 0, 1), (42, .getfield 43, 3), (45, .getfield 224, 3),
  (48, .goto 5, 3), (51, .bipush (-3), 2), (53, .ireturn, 1)])
set_option maxRecDepth 100000 in
theorem K_Wb_bound : mOk M_Wb_bound := by decide +kernel
def M_Wb_isSetOfGirls : zM := ("WindBrides", ⟨"WindBrides", "isSetOfGirls", "(I)Z"⟩, prog_1_method_32_code, 2, (some .boolean), [
  (0, .iload_n 1, 1), (1, .aload_n 0, 1), (2, .getfield 10, 3), (5, .getfield 76, 3), (8, .ishr, 1), (9, .ifCond .ne 7, 3),
  (12, .iconst 1, 1), (13, .goto 4, 3), (16, .iconst 0, 1), (17, .ireturn, 1)])
set_option maxRecDepth 100000 in
theorem K_Wb_isSetOfGirls : mOk M_Wb_isSetOfGirls := by decide +kernel
def M_Wb_bars : zM := ("WindBrides", ⟨"WindBrides", "bars", "(II)I"⟩, prog_1_method_37_code, 4, (some .int), [
  (0, .iload_n 1, 1), (1, .invokestatic 203, 3), (4, .ifCond .eq 11, 3), (7, .aload_n 0, 1), (8, .iload_n 2, 1), (9, .invokevirtual 221, 3),
  (12, .ifCond .ne 5, 3), (15, .iconst (-1), 1), (16, .ireturn, 1), (17, .aload_n 0, 1), (18, .getfield 43, 3), (21, .aload_n 0, 1),
  (22, .getfield 10, 3), (25, .iload_n 1, 1), (26, .iload_n 2, 1), (27, .invokevirtual 206, 3), (30, .iload_n 2, 1), (31, .aload_n 0, 1),
  (32, .getfield 43, 3), (35, .getfield 227, 3), (38, .iconst (-1), 1), (39, .ixor, 1), (40, .iand, 1), (41, .istore_n 3, 1),
  (42, .iload_n 3, 1), (43, .ifCond .ne 8, 3), (46, .bipush (-3), 2), (48, .goto 7, 3), (51, .iload_n 3, 1), (52, .invokestatic 230, 3),
  (55, .ireturn, 1)])
set_option maxRecDepth 100000 in
theorem K_Wb_bars : mOk M_Wb_bars := by decide +kernel
def M_Wb_game : zM := ("WindBrides", ⟨"WindBrides", "game", "(I)I"⟩, prog_1_method_38_code, 2, (some .int), [
  (0, .iload_n 1, 1), (1, .iconst 1, 1), (2, .iconst 4, 1), (3, .invokestatic 72, 3), (6, .ifCond .ne 5, 3), (9, .iconst (-1), 1),
  (10, .ireturn, 1), (11, .aload_n 0, 1), (12, .getfield 43, 3), (15, .aload_n 0, 1), (16, .getfield 10, 3), (19, .iload_n 1, 1),
  (20, .invokevirtual 235, 3), (23, .ireturn, 1)])
set_option maxRecDepth 100000 in
theorem K_Wb_game : mOk M_Wb_game := by decide +kernel
def M_Wb_play : zM := ("WindBrides", ⟨"WindBrides", "play", "(I)I"⟩, prog_1_method_39_code, 2, (some .int), [
  (0, .iload_n 1, 1), (1, .iconst 1, 1), (2, .iconst 4, 1), (3, .invokestatic 72, 3), (6, .ifCond .ne 5, 3), (9, .iconst (-1), 1),
  (10, .ireturn, 1), (11, .aload_n 0, 1), (12, .getfield 10, 3), (15, .invokevirtual 155, 3), (18, .ifCond .eq 6, 3), (21, .bipush (-3), 2),
  (23, .ireturn, 1), (24, .aload_n 0, 1), (25, .getfield 43, 3), (28, .aload_n 0, 1), (29, .getfield 10, 3), (32, .iload_n 1, 1),
  (33, .invokevirtual 235, 3), (36, .pop, 1), (37, .aload_n 0, 1), (38, .getfield 43, 3), (41, .getfield 238, 3), (44, .ireturn, 1)])
set_option maxRecDepth 100000 in
theorem K_Wb_play : mOk M_Wb_play := by decide +kernel
def M_Wb_report : zM := ("WindBrides", ⟨"WindBrides", "report", "(IIII)I"⟩, prog_1_method_40_code, 5, (some .int), [
  (0, .iload_n 1, 1), (1, .iconst 1, 1), (2, .iconst 5, 1), (3, .invokestatic 72, 3), (6, .ifCond .eq 34, 3), (9, .iload_n 2, 1),
  (10, .iconst 0, 1), (11, .bipush 7, 2), (13, .invokestatic 72, 3), (16, .ifCond .eq 24, 3), (19, .iload_n 3, 1), (20, .iconst 0, 1),
  (21, .bipush 99, 2), (23, .invokestatic 72, 3), (26, .ifCond .eq 14, 3), (29, .iload 4, 2), (31, .iload_n 3, 1), (32, .bipush 99, 2),
  (34, .invokestatic 72, 3), (37, .ifCond .ne 5, 3), (40, .iconst (-1), 1), (41, .ireturn, 1), (42, .aload_n 0, 1), (43, .getfield 10, 3),
  (46, .getfield 241, 3), (49, .bipush 6, 2), (51, .if_icmp .ne 6, 3), (54, .bipush (-2), 2), (56, .ireturn, 1), (57, .aload_n 0, 1),
  (58, .getfield 10, 3), (61, .iload_n 1, 1), (62, .iload_n 2, 1), (63, .iload_n 3, 1), (64, .iload 4, 2), (66, .invokevirtual 244, 3),
  (69, .ireturn, 1)])
set_option maxRecDepth 100000 in
theorem K_Wb_report : mOk M_Wb_report := by decide +kernel
def M_Wb_forget : zM := ("WindBrides", ⟨"WindBrides", "forget", "()I"⟩, prog_1_method_41_code, 2, (some .int), [
  (0, .aload_n 0, 1), (1, .getfield 10, 3), (4, .getfield 241, 3), (7, .istore_n 1, 1), (8, .aload_n 0, 1), (9, .getfield 10, 3),
  (12, .iconst 0, 1), (13, .putfield 241, 3), (16, .iload_n 1, 1), (17, .ireturn, 1)])
set_option maxRecDepth 100000 in
theorem K_Wb_forget : mOk M_Wb_forget := by decide +kernel
def M_Wb_span : zM := ("WindBrides", ⟨"WindBrides", "span", "(I)I"⟩, prog_1_method_42_code, 4, (some .int), [
  (0, .iload_n 1, 1), (1, .iconst 0, 1), (2, .iconst 2, 1), (3, .invokestatic 72, 3), (6, .ifCond .ne 5, 3), (9, .iconst (-1), 1),
  (10, .ireturn, 1), (11, .iload_n 1, 1), (12, .ifCond .ne 12, 3), (15, .aload_n 0, 1), (16, .getfield 10, 3), (19, .iconst (-1), 1),
  (20, .invokevirtual 247, 3), (23, .ireturn, 1), (24, .iconst 0, 1), (25, .istore_n 2, 1), (26, .iload_n 2, 1), (27, .bipush 8, 2),
  (29, .if_icmp .ge 47, 3), (32, .iconst 1, 1), (33, .istore_n 3, 1), (34, .iload_n 3, 1), (35, .bipush 9, 2), (37, .if_icmp .gt 33, 3),
  (40, .aload_n 0, 1), (41, .getfield 10, 3), (44, .iload_n 2, 1), (45, .iload_n 3, 1), (46, .iconst (-1), 1), (47, .invokevirtual 250, 3),
  (50, .ifCond .eq 14, 3), (53, .iload_n 1, 1), (54, .iconst 1, 1), (55, .if_icmp .ne 7, 3), (58, .iload_n 2, 1), (59, .goto 4, 3),
  (62, .iload_n 3, 1), (63, .ireturn, 1), (64, .iinc 3 1, 3), (67, .goto (-33), 3), (70, .iinc 2 1, 3), (73, .goto (-47), 3),
  (76, .bipush (-3), 2), (78, .ireturn, 1)])
set_option maxRecDepth 100000 in
theorem K_Wb_span : mOk M_Wb_span := by decide +kernel
def M_Wb_liar : zM := ("WindBrides", ⟨"WindBrides", "liar", "()I"⟩, prog_1_method_43_code, 2, (some .int), [
  (0, .aload_n 0, 1), (1, .getfield 10, 3), (4, .iconst (-1), 1), (5, .invokevirtual 247, 3), (8, .ifCond .le 6, 3), (11, .bipush (-3), 2),
  (13, .ireturn, 1), (14, .iconst 0, 1), (15, .istore_n 1, 1), (16, .iload_n 1, 1), (17, .aload_n 0, 1), (18, .getfield 10, 3),
  (21, .getfield 241, 3), (24, .if_icmp .ge 22, 3), (27, .aload_n 0, 1), (28, .getfield 10, 3), (31, .iload_n 1, 1), (32, .invokevirtual 247, 3),
  (35, .ifCond .le 5, 3), (38, .iload_n 1, 1), (39, .ireturn, 1), (40, .iinc 1 1, 3), (43, .goto (-27), 3), (46, .bipush (-3), 2),
  (48, .ireturn, 1)])
set_option maxRecDepth 100000 in
theorem K_Wb_liar : mOk M_Wb_liar := by decide +kernel
def M_Wb_seed : zM := ("WindBrides", ⟨"WindBrides", "seed", "(I)I"⟩, prog_1_method_44_code, 3, (some .int), [
  (0, .aload_n 0, 1), (1, .getfield 10, 3), (4, .getfield 253, 3), (7, .istore_n 2, 1), (8, .aload_n 0, 1), (9, .getfield 10, 3),
  (12, .iload_n 1, 1), (13, .putfield 253, 3), (16, .iload_n 2, 1), (17, .ireturn, 1)])
set_option maxRecDepth 100000 in
theorem K_Wb_seed : mOk M_Wb_seed := by decide +kernel
def M_Wb_lot : zM := ("WindBrides", ⟨"WindBrides", "lot", "()I"⟩, prog_1_method_45_code, 1, (some .int), [
  (0, .aload_n 0, 1), (1, .getfield 10, 3), (4, .invokevirtual 155, 3), (7, .ifCond .eq 8, 3), (10, .bipush (-4), 2), (12, .goto 14, 3),
  (15, .aload_n 0, 1), (16, .aload_n 0, 1), (17, .getfield 10, 3), (20, .invokevirtual 256, 3), (23, .invokevirtual 177, 3), (26, .ireturn, 1)])
set_option maxRecDepth 100000 in
theorem K_Wb_lot : mOk M_Wb_lot := by decide +kernel
def M_Wb_often : zM := ("WindBrides", ⟨"WindBrides", "often", "(II)I"⟩, prog_1_method_46_code, 8, (some .int), [
  (0, .iload_n 1, 1), (1, .iconst 1, 1), (2, .bipush 40, 2), (4, .invokestatic 72, 3), (7, .ifCond .eq 14, 3), (10, .iload_n 2, 1),
  (11, .iconst 0, 1), (12, .sipush 999, 3), (15, .invokestatic 72, 3), (18, .ifCond .ne 5, 3), (21, .iconst (-1), 1), (22, .ireturn, 1),
  (23, .aload_n 0, 1), (24, .getfield 10, 3), (27, .getfield 253, 3), (30, .istore_n 3, 1), (31, .iconst 0, 1), (32, .istore 4, 2),
  (34, .iconst 0, 1), (35, .istore 5, 2), (37, .iload 5, 2), (39, .iload_n 1, 1), (40, .if_icmp .ge 92, 3), (43, .aload_n 0, 1),
  (44, .getfield 22, 3), (47, .aload_n 0, 1), (48, .getfield 10, 3), (51, .getfield 97, 3), (54, .invokevirtual 184, 3), (57, .iconst 0, 1),
  (58, .istore 6, 2), (60, .aload_n 0, 1), (61, .getfield 22, 3), (64, .getfield 135, 3), (67, .istore 7, 2), (69, .iload 7, 2),
  (71, .aload_n 0, 1), (72, .getfield 10, 3), (75, .getfield 149, 3), (78, .if_icmp .ge 32, 3), (81, .iload 6, 2), (83, .aload_n 0, 1),
  (84, .getfield 22, 3), (87, .aload_n 0, 1), (88, .getfield 10, 3), (91, .aload_n 0, 1), (92, .getfield 10, 3), (95, .invokevirtual 256, 3),
  (98, .invokevirtual 181, 3), (101, .iadd, 1), (102, .istore 6, 2), (104, .iinc 7 1, 3), (107, .goto (-38), 3), (110, .iload 4, 2),
  (112, .iload 6, 2), (114, .iload_n 2, 1), (115, .if_icmp .lt 7, 3), (118, .iconst 1, 1), (119, .goto 4, 3), (122, .iconst 0, 1),
  (123, .iadd, 1), (124, .istore 4, 2), (126, .iinc 5 1, 3), (129, .goto (-92), 3), (132, .aload_n 0, 1), (133, .getfield 10, 3),
  (136, .iload_n 3, 1), (137, .putfield 253, 3), (140, .iload 4, 2), (142, .ireturn, 1)])
set_option maxRecDepth 100000 in
theorem K_Wb_often : mOk M_Wb_often := by decide +kernel
def M_Wb_prove : zM := ("WindBrides", ⟨"WindBrides", "prove", "(I)I"⟩, prog_1_method_47_code, 2, (some .int), [
  (0, .iload_n 1, 1), (1, .invokestatic 203, 3), (4, .ifCond .ne 5, 3), (7, .iconst (-1), 1), (8, .ireturn, 1), (9, .aload_n 0, 1),
  (10, .getfield 43, 3), (13, .aload_n 0, 1), (14, .getfield 10, 3), (17, .iload_n 1, 1), (18, .iconst 0, 1), (19, .invokevirtual 206, 3),
  (22, .aload_n 0, 1), (23, .getfield 43, 3), (26, .invokevirtual 259, 3), (29, .ireturn, 1)])
set_option maxRecDepth 100000 in
theorem K_Wb_prove : mOk M_Wb_prove := by decide +kernel
def M_Wb_row : zM := ("WindBrides", ⟨"WindBrides", "row", "(II)I"⟩, prog_1_method_48_code, 3, (some .int), [
  (0, .aload_n 0, 1), (1, .getfield 43, 3), (4, .iload_n 1, 1), (5, .iload_n 2, 1), (6, .invokevirtual 262, 3), (9, .ifCond .eq 19, 3),
  (12, .aload_n 0, 1), (13, .getfield 43, 3), (16, .getfield 265, 3), (19, .iconst 3, 1), (20, .iload_n 1, 1), (21, .imul, 1),
  (22, .iload_n 2, 1), (23, .iadd, 1), (24, .iaload, 1), (25, .goto 5, 3), (28, .bipush (-9), 2), (30, .ireturn, 1)])
set_option maxRecDepth 100000 in
theorem K_Wb_row : mOk M_Wb_row := by decide +kernel
def M_Wb_alterRow : zM := ("WindBrides", ⟨"WindBrides", "alterRow", "(III)I"⟩, prog_1_method_49_code, 5, (some .int), [
  (0, .aload_n 0, 1), (1, .getfield 43, 3), (4, .iload_n 1, 1), (5, .iload_n 2, 1), (6, .invokevirtual 262, 3), (9, .ifCond .ne 6, 3),
  (12, .bipush (-9), 2), (14, .ireturn, 1), (15, .aload_n 0, 1), (16, .getfield 43, 3), (19, .getfield 265, 3), (22, .iconst 3, 1),
  (23, .iload_n 1, 1), (24, .imul, 1), (25, .iload_n 2, 1), (26, .iadd, 1), (27, .iaload, 1), (28, .istore 4, 2),
  (30, .aload_n 0, 1), (31, .getfield 43, 3), (34, .getfield 265, 3), (37, .iconst 3, 1), (38, .iload_n 1, 1), (39, .imul, 1),
  (40, .iload_n 2, 1), (41, .iadd, 1), (42, .iload_n 3, 1), (43, .iastore, 1), (44, .iload 4, 2), (46, .ireturn, 1)])
set_option maxRecDepth 100000 in
theorem K_Wb_alterRow : mOk M_Wb_alterRow := by decide +kernel
def M_Wb_judge : zM := ("WindBrides", ⟨"WindBrides", "judge", "()I"⟩, prog_1_method_50_code, 1, (some .int), [
  (0, .aload_n 0, 1), (1, .getfield 43, 3), (4, .aload_n 0, 1), (5, .getfield 10, 3), (8, .invokevirtual 268, 3), (11, .ireturn, 1)])
set_option maxRecDepth 100000 in
theorem K_Wb_judge : mOk M_Wb_judge := by decide +kernel
def M_Wb_sheet : zM := ("WindBrides", ⟨"WindBrides", "sheet", "(III)I"⟩, prog_1_method_53_code, 6, (some .int), [
  (0, .iload_n 1, 1), (1, .invokestatic 272, 3), (4, .ifCond .eq 12, 3), (7, .iload_n 2, 1), (8, .iconst (-1), 1), (9, .iconst 4, 1),
  (10, .invokestatic 72, 3), (13, .ifCond .ne 5, 3), (16, .iconst (-1), 1), (17, .ireturn, 1), (18, .iload_n 2, 1), (19, .iconst (-1), 1),
  (20, .if_icmp .ne 7, 3), (23, .iconst 0, 1), (24, .goto 4, 3), (27, .iload_n 3, 1), (28, .istore 4, 2), (30, .iload 4, 2),
  (32, .bipush 40, 2), (34, .if_icmp .le 5, 3), (37, .iconst (-1), 1), (38, .ireturn, 1), (39, .iload 4, 2), (41, .ifCond .ge 6, 3),
  (44, .bipush (-14), 2), (46, .ireturn, 1), (47, .aload_n 0, 1), (48, .getfield 47, 3), (51, .iload_n 1, 1), (52, .iload_n 2, 1),
  (53, .iastore, 1), (54, .aload_n 0, 1), (55, .getfield 51, 3), (58, .iload_n 1, 1), (59, .iload 4, 2), (61, .iastore, 1),
  (62, .iconst 0, 1), (63, .istore 5, 2), (65, .iload 5, 2), (67, .iload 4, 2), (69, .if_icmp .ge 22, 3), (72, .aload_n 0, 1),
  (73, .getfield 54, 3), (76, .iload_n 1, 1), (77, .bipush 40, 2), (79, .imul, 1), (80, .iload 5, 2), (82, .iadd, 1),
  (83, .iconst 0, 1), (84, .iastore, 1), (85, .iinc 5 1, 3), (88, .goto (-23), 3), (91, .iconst 1, 1), (92, .ireturn, 1)])
set_option maxRecDepth 100000 in
theorem K_Wb_sheet : mOk M_Wb_sheet := by decide +kernel
def M_Wb_isSheet : zM := ("WindBrides", ⟨"WindBrides", "isSheet", "(I)Z"⟩, prog_1_method_51_code, 1, (some .boolean), [
  (0, .iload_n 0, 1), (1, .iconst 0, 1), (2, .iconst 3, 1), (3, .invokestatic 72, 3), (6, .ireturn, 1)])
set_option maxRecDepth 100000 in
theorem K_Wb_isSheet : mOk M_Wb_isSheet := by decide +kernel
def M_Wb_write : zM := ("WindBrides", ⟨"WindBrides", "write", "(III)I"⟩, prog_1_method_56_code, 4, (some .int), [
  (0, .iload_n 1, 1), (1, .invokestatic 272, 3), (4, .ifCond .ne 5, 3), (7, .iconst (-1), 1), (8, .ireturn, 1), (9, .aload_n 0, 1),
  (10, .getfield 47, 3), (13, .iload_n 1, 1), (14, .iaload, 1), (15, .iconst (-1), 1), (16, .if_icmp .ne 6, 3), (19, .bipush (-11), 2),
  (21, .ireturn, 1), (22, .aload_n 0, 1), (23, .iload_n 1, 1), (24, .iload_n 2, 1), (25, .invokevirtual 275, 3), (28, .ifCond .ne 6, 3),
  (31, .bipush (-12), 2), (33, .ireturn, 1), (34, .aload_n 0, 1), (35, .getfield 54, 3), (38, .iload_n 1, 1), (39, .bipush 40, 2),
  (41, .imul, 1), (42, .iload_n 2, 1), (43, .iadd, 1), (44, .aload_n 0, 1), (45, .getfield 47, 3), (48, .iload_n 1, 1),
  (49, .iaload, 1), (50, .iload_n 3, 1), (51, .invokestatic 278, 3), (54, .iastore, 1), (55, .iconst 1, 1), (56, .ireturn, 1)])
set_option maxRecDepth 100000 in
theorem K_Wb_write : mOk M_Wb_write := by decide +kernel
def M_Wb_hasItem : zM := ("WindBrides", ⟨"WindBrides", "hasItem", "(II)Z"⟩, prog_1_method_55_code, 3, (some .boolean), [
  (0, .iload_n 2, 1), (1, .ifCond .lt 17, 3), (4, .iload_n 2, 1), (5, .aload_n 0, 1), (6, .getfield 51, 3), (9, .iload_n 1, 1),
  (10, .iaload, 1), (11, .if_icmp .ge 7, 3), (14, .iconst 1, 1), (15, .goto 4, 3), (18, .iconst 0, 1), (19, .ireturn, 1)])
set_option maxRecDepth 100000 in
theorem K_Wb_hasItem : mOk M_Wb_hasItem := by decide +kernel
def M_Wb_narrowed : zM := ("WindBrides", ⟨"WindBrides", "narrowed", "(II)I"⟩, prog_1_method_54_code, 2, (some .int), [
  (0, .iload_n 0, 1), (1, .tableswitch 51 0 4 #[35, 38, 51, 51, 41], 35), (36, .iload_n 1, 1), (37, .i2b, 1), (38, .ireturn, 1), (39, .iload_n 1, 1),
  (40, .i2s, 1), (41, .ireturn, 1), (42, .iload_n 1, 1), (43, .ifCond .eq 7, 3), (46, .iconst 1, 1), (47, .goto 4, 3),
  (50, .iconst 0, 1), (51, .ireturn, 1), (52, .iload_n 1, 1), (53, .ireturn, 1)])
set_option maxRecDepth 100000 in
theorem K_Wb_narrowed : mOk M_Wb_narrowed := by decide +kernel
def M_Wb_item : zM := ("WindBrides", ⟨"WindBrides", "item", "(III)I"⟩, prog_1_method_58_code, 5, (some .int), [
  (0, .iload_n 1, 1), (1, .invokestatic 272, 3), (4, .ifCond .eq 12, 3), (7, .iload_n 2, 1), (8, .iconst 0, 1), (9, .iconst 4, 1),
  (10, .invokestatic 72, 3), (13, .ifCond .ne 5, 3), (16, .iconst (-1), 1), (17, .ireturn, 1), (18, .aload_n 0, 1), (19, .iload_n 1, 1),
  (20, .iload_n 2, 1), (21, .invokevirtual 282, 3), (24, .istore 4, 2), (26, .iload 4, 2), (28, .ifCond .eq 6, 3), (31, .iload 4, 2),
  (33, .ireturn, 1), (34, .aload_n 0, 1), (35, .iload_n 1, 1), (36, .iload_n 3, 1), (37, .invokevirtual 275, 3), (40, .ifCond .eq 17, 3),
  (43, .aload_n 0, 1), (44, .getfield 54, 3), (47, .iload_n 1, 1), (48, .bipush 40, 2), (50, .imul, 1), (51, .iload_n 3, 1),
  (52, .iadd, 1), (53, .iaload, 1), (54, .goto 5, 3), (57, .bipush (-12), 2), (59, .ireturn, 1)])
set_option maxRecDepth 100000 in
theorem K_Wb_item : mOk M_Wb_item := by decide +kernel
def M_Wb_refusalAs : zM := ("WindBrides", ⟨"WindBrides", "refusalAs", "(II)I"⟩, prog_1_method_57_code, 3, (some .int), [
  (0, .aload_n 0, 1), (1, .getfield 47, 3), (4, .iload_n 1, 1), (5, .iaload, 1), (6, .iconst (-1), 1), (7, .if_icmp .ne 6, 3),
  (10, .bipush (-11), 2), (12, .ireturn, 1), (13, .aload_n 0, 1), (14, .getfield 47, 3), (17, .iload_n 1, 1), (18, .iaload, 1),
  (19, .iload_n 2, 1), (20, .if_icmp .ne 7, 3), (23, .iconst 0, 1), (24, .goto 5, 3), (27, .bipush (-13), 2), (29, .ireturn, 1)])
set_option maxRecDepth 100000 in
theorem K_Wb_refusalAs : mOk M_Wb_refusalAs := by decide +kernel
def M_Wb_goAll : zM := ("WindBrides", ⟨"WindBrides", "goAll", "(III)I"⟩, prog_1_method_59_code, 8, (some .int), [
  (0, .iload_n 1, 1), (1, .invokestatic 272, 3), (4, .ifCond .eq 13, 3), (7, .iload_n 3, 1), (8, .iconst 0, 1), (9, .bipush 20, 2),
  (11, .invokestatic 72, 3), (14, .ifCond .ne 5, 3), (17, .iconst (-1), 1), (18, .ireturn, 1), (19, .aload_n 0, 1), (20, .iload_n 1, 1),
  (21, .iconst 0, 1), (22, .invokevirtual 282, 3), (25, .istore 4, 2), (27, .iload 4, 2), (29, .ifCond .eq 6, 3), (32, .iload 4, 2),
  (34, .ireturn, 1), (35, .iconst 0, 1), (36, .istore 5, 2), (38, .iconst 0, 1), (39, .istore 6, 2), (41, .iload 6, 2),
  (43, .iload_n 3, 1), (44, .if_icmp .ge 73, 3), (47, .aload_n 0, 1), (48, .iload_n 1, 1), (49, .iload_n 2, 1), (50, .iload 6, 2),
  (52, .iadd, 1), (53, .invokevirtual 275, 3), (56, .ifCond .ne 6, 3), (59, .bipush (-12), 2), (61, .ireturn, 1), (62, .aload_n 0, 1),
  (63, .getfield 54, 3), (66, .iload_n 1, 1), (67, .bipush 40, 2), (69, .imul, 1), (70, .iload_n 2, 1), (71, .iadd, 1),
  (72, .iload 6, 2), (74, .iadd, 1), (75, .iaload, 1), (76, .istore 7, 2), (78, .aload_n 0, 1), (79, .getfield 10, 3),
  (82, .iload 7, 2), (84, .invokevirtual 285, 3), (87, .ifCond .eq 24, 3), (90, .aload_n 0, 1), (91, .getfield 10, 3), (94, .invokevirtual 155, 3),
  (97, .ifCond .ne 14, 3), (100, .iload 5, 2), (102, .aload_n 0, 1), (103, .iload 7, 2), (105, .invokevirtual 177, 3), (108, .iadd, 1),
  (109, .istore 5, 2), (111, .iinc 6 1, 3), (114, .goto (-73), 3), (117, .iload 5, 2), (119, .ireturn, 1)])
set_option maxRecDepth 100000 in
theorem K_Wb_goAll : mOk M_Wb_goAll := by decide +kernel
def M_Wb_wouldBe : zM := ("WindBrides", ⟨"WindBrides", "wouldBe", "(III)I"⟩, prog_1_method_60_code, 8, (some .int), [
  (0, .iload_n 1, 1), (1, .invokestatic 272, 3), (4, .ifCond .eq 13, 3), (7, .iload_n 3, 1), (8, .iconst 0, 1), (9, .bipush 20, 2),
  (11, .invokestatic 72, 3), (14, .ifCond .ne 5, 3), (17, .iconst (-1), 1), (18, .ireturn, 1), (19, .aload_n 0, 1), (20, .iload_n 1, 1),
  (21, .iconst 0, 1), (22, .invokevirtual 282, 3), (25, .istore 4, 2), (27, .iload 4, 2), (29, .ifCond .eq 6, 3), (32, .iload 4, 2),
  (34, .ireturn, 1), (35, .aload_n 0, 1), (36, .getfield 22, 3), (39, .aload_n 0, 1), (40, .getfield 10, 3), (43, .getfield 97, 3),
  (46, .invokevirtual 184, 3), (49, .iconst 0, 1), (50, .istore 5, 2), (52, .iconst 0, 1), (53, .istore 6, 2), (55, .iload 6, 2),
  (57, .iload_n 3, 1), (58, .if_icmp .ge 90, 3), (61, .aload_n 0, 1), (62, .iload_n 1, 1), (63, .iload_n 2, 1), (64, .iload 6, 2),
  (66, .iadd, 1), (67, .invokevirtual 275, 3), (70, .ifCond .ne 6, 3), (73, .bipush (-12), 2), (75, .ireturn, 1), (76, .aload_n 0, 1),
  (77, .getfield 54, 3), (80, .iload_n 1, 1), (81, .bipush 40, 2), (83, .imul, 1), (84, .iload_n 2, 1), (85, .iadd, 1),
  (86, .iload 6, 2), (88, .iadd, 1), (89, .iaload, 1), (90, .istore 7, 2), (92, .aload_n 0, 1), (93, .getfield 10, 3),
  (96, .iload 7, 2), (98, .invokevirtual 285, 3), (101, .ifCond .eq 20, 3), (104, .aload_n 0, 1), (105, .getfield 22, 3), (108, .getfield 135, 3),
  (111, .aload_n 0, 1), (112, .getfield 10, 3), (115, .getfield 149, 3), (118, .if_icmp .lt 6, 3), (121, .bipush (-4), 2), (123, .ireturn, 1),
  (124, .iload 5, 2), (126, .aload_n 0, 1), (127, .getfield 22, 3), (130, .aload_n 0, 1), (131, .getfield 10, 3), (134, .iload 7, 2),
  (136, .invokevirtual 181, 3), (139, .iadd, 1), (140, .istore 5, 2), (142, .iinc 6 1, 3), (145, .goto (-90), 3), (148, .iload 5, 2),
  (150, .ireturn, 1)])
set_option maxRecDepth 100000 in
theorem K_Wb_wouldBe : mOk M_Wb_wouldBe := by decide +kernel
def M_Wb_shelf : zM := ("WindBrides", ⟨"WindBrides", "shelf", "(III)I"⟩, prog_1_method_61_code, 4, (some .int), [
  (0, .iload_n 1, 1), (1, .invokestatic 288, 3), (4, .ifCond .eq 39, 3), (7, .iload_n 2, 1), (8, .iconst 0, 1), (9, .iconst 2, 1),
  (10, .invokestatic 72, 3), (13, .ifCond .eq 30, 3), (16, .iload_n 2, 1), (17, .ifCond .ne 14, 3), (20, .aload_n 0, 1), (21, .getfield 10, 3),
  (24, .iload_n 3, 1), (25, .invokevirtual 84, 3), (28, .ifCond .eq 15, 3), (31, .iload_n 2, 1), (32, .iconst 1, 1), (33, .if_icmp .ne 12, 3),
  (36, .iload_n 3, 1), (37, .invokestatic 272, 3), (40, .ifCond .ne 5, 3), (43, .iconst (-1), 1), (44, .ireturn, 1), (45, .aload_n 0, 1),
  (46, .getfield 57, 3), (49, .iload_n 1, 1), (50, .iload_n 2, 1), (51, .iastore, 1), (52, .iload_n 2, 1), (53, .ifCond .ne 10, 3),
  (56, .aload_n 0, 1), (57, .getfield 60, 3), (60, .iload_n 1, 1), (61, .iload_n 3, 1), (62, .iastore, 1), (63, .iload_n 2, 1),
  (64, .iconst 1, 1), (65, .if_icmp .ne 9, 3), (68, .aload_n 0, 1), (69, .iload_n 1, 1), (70, .iload_n 3, 1), (71, .invokevirtual 291, 3),
  (74, .iconst 1, 1), (75, .ireturn, 1)])
set_option maxRecDepth 100000 in
theorem K_Wb_shelf : mOk M_Wb_shelf := by decide +kernel
def M_Wb_isShelf : zM := ("WindBrides", ⟨"WindBrides", "isShelf", "(I)Z"⟩, prog_1_method_52_code, 1, (some .boolean), [
  (0, .iload_n 0, 1), (1, .iconst 0, 1), (2, .iconst 3, 1), (3, .invokestatic 72, 3), (6, .ireturn, 1)])
set_option maxRecDepth 100000 in
theorem K_Wb_isShelf : mOk M_Wb_isShelf := by decide +kernel
def M_Wb_putRow : zM := ("WindBrides", ⟨"WindBrides", "putRow", "(II)V"⟩, prog_1_method_62_code, 3, none, [
  (0, .aload_n 0, 1), (1, .getfield 47, 3), (4, .iload_n 2, 1), (5, .iaload, 1), (6, .iconst (-1), 1), (7, .if_icmp .ne 13, 3),
  (10, .aload_n 0, 1), (11, .getfield 57, 3), (14, .iload_n 1, 1), (15, .iconst 2, 1), (16, .iastore, 1), (17, .goto 27, 3),
  (20, .aload_n 0, 1), (21, .getfield 63, 3), (24, .iload_n 1, 1), (25, .aload_n 0, 1), (26, .getfield 47, 3), (29, .iload_n 2, 1),
  (30, .iaload, 1), (31, .iastore, 1), (32, .aload_n 0, 1), (33, .getfield 60, 3), (36, .iload_n 1, 1), (37, .aload_n 0, 1),
  (38, .getfield 51, 3), (41, .iload_n 2, 1), (42, .iaload, 1), (43, .iastore, 1), (44, .return_, 1)])
set_option maxRecDepth 100000 in
theorem K_Wb_putRow : mOk M_Wb_putRow := by decide +kernel
def M_Wb_taken : zM := ("WindBrides", ⟨"WindBrides", "taken", "(II)I"⟩, prog_1_method_64_code, 6, (some .int), [
  (0, .iload_n 2, 1), (1, .iconst 0, 1), (2, .iconst 5, 1), (3, .invokestatic 72, 3), (6, .istore_n 3, 1), (7, .iload_n 1, 1),
  (8, .invokestatic 288, 3), (11, .ifCond .eq 18, 3), (14, .iload_n 3, 1), (15, .ifCond .ne 16, 3), (18, .iload_n 2, 1), (19, .bipush 10, 2),
  (21, .bipush 14, 2), (23, .invokestatic 72, 3), (26, .ifCond .ne 5, 3), (29, .iconst (-1), 1), (30, .ireturn, 1), (31, .aload_n 0, 1),
  (32, .iload_n 1, 1), (33, .invokevirtual 295, 3), (36, .istore 4, 2), (38, .iload 4, 2), (40, .iconst 2, 1), (41, .if_icmp .ne 6, 3),
  (44, .bipush (-11), 2), (46, .ireturn, 1), (47, .iload 4, 2), (49, .ifCond .ne 36, 3), (52, .iload_n 3, 1), (53, .ifCond .eq 28, 3),
  (56, .aload_n 0, 1), (57, .getfield 10, 3), (60, .getfield 88, 3), (63, .aload_n 0, 1), (64, .getfield 60, 3), (67, .iload_n 1, 1),
  (68, .iaload, 1), (69, .iaload, 1), (70, .iload_n 2, 1), (71, .invokestatic 298, 3), (74, .ifCond .eq 7, 3), (77, .iconst 1, 1),
  (78, .goto 25, 3), (81, .iconst 0, 1), (82, .goto 21, 3), (85, .aload_n 0, 1), (86, .getfield 63, 3), (89, .iload_n 1, 1),
  (90, .iaload, 1), (91, .iload_n 2, 1), (92, .bipush 10, 2), (94, .isub, 1), (95, .if_icmp .ne 7, 3), (98, .iconst 1, 1),
  (99, .goto 4, 3), (102, .iconst 0, 1), (103, .istore 5, 2), (105, .iload 5, 2), (107, .ifCond .eq 12, 3), (110, .aload_n 0, 1),
  (111, .getfield 60, 3), (114, .iload_n 1, 1), (115, .iaload, 1), (116, .goto 5, 3), (119, .bipush (-13), 2), (121, .ireturn, 1)])
set_option maxRecDepth 100000 in
theorem K_Wb_taken : mOk M_Wb_taken := by decide +kernel
def M_Wb_heldOn : zM := ("WindBrides", ⟨"WindBrides", "heldOn", "(I)I"⟩, prog_1_method_63_code, 3, (some .int), [
  (0, .aload_n 0, 1), (1, .getfield 57, 3), (4, .iload_n 1, 1), (5, .iaload, 1), (6, .ifCond .ne 23, 3), (9, .aload_n 0, 1),
  (10, .getfield 10, 3), (13, .aload_n 0, 1), (14, .getfield 60, 3), (17, .iload_n 1, 1), (18, .iaload, 1), (19, .invokevirtual 84, 3),
  (22, .ifCond .ne 7, 3), (25, .iconst 1, 1), (26, .goto 4, 3), (29, .iconst 0, 1), (30, .istore_n 2, 1), (31, .iload_n 2, 1),
  (32, .ifCond .eq 7, 3), (35, .iconst 2, 1), (36, .goto 9, 3), (39, .aload_n 0, 1), (40, .getfield 57, 3), (43, .iload_n 1, 1),
  (44, .iaload, 1), (45, .ireturn, 1)])
set_option maxRecDepth 100000 in
theorem K_Wb_heldOn : mOk M_Wb_heldOn := by decide +kernel
def M_Wb_act : zM := ("WindBrides", ⟨"WindBrides", "act", "(III)I"⟩, prog_1_method_65_code, 6, (some .int), [
  (0, .aload_n 0, 1), (1, .aconst_null, 1), (2, .putfield 301, 3), (5, .iload_n 1, 1), (6, .invokestatic 288, 3), (9, .ifCond .eq 20, 3),
  (12, .iload_n 2, 1), (13, .iconst 0, 1), (14, .iconst 3, 1), (15, .invokestatic 72, 3), (18, .ifCond .eq 11, 3), (21, .aload_n 0, 1),
  (22, .iload_n 1, 1), (23, .invokevirtual 295, 3), (26, .ifCond .eq 5, 3), (29, .iconst 0, 1), (30, .ireturn, 1), (31, .aload_n 0, 1),
  (32, .aload_n 0, 1), (33, .getfield 60, 3), (36, .iload_n 1, 1), (37, .iaload, 1), (38, .invokevirtual 305, 3), (41, .astore 4, 2),
  (43, .aload_n 0, 1), (44, .aload 4, 2), (46, .putfield 301, 3), (49, .iload_n 2, 1), (50, .tableswitch 59 0 2 #[26, 37, 48], 26), (76, .aload 4, 2),
  (78, .iload_n 3, 1), (79, .invokevirtual 309, 3), (82, .istore 5, 2), (84, .goto 33, 3), (87, .aload 4, 2), (89, .iload_n 3, 1),
  (90, .invokevirtual 314, 3), (93, .istore 5, 2), (95, .goto 22, 3), (98, .aload 4, 2), (100, .iload_n 3, 1), (101, .invokevirtual 317, 3),
  (104, .istore 5, 2), (106, .goto 11, 3), (109, .aload 4, 2), (111, .iload_n 3, 1), (112, .invokevirtual 320, 3), (115, .istore 5, 2),
  (117, .aload 4, 2), (119, .getfield 323, 3), (122, .ifCond .eq 8, 3), (125, .bipush (-15), 2), (127, .goto 5, 3), (130, .iload 5, 2),
  (132, .ireturn, 1)])
set_option maxRecDepth 100000 in
theorem K_Wb_act : mOk M_Wb_act := by decide +kernel
def M_Wb_thingOf : zM := ("WindBrides", ⟨"WindBrides", "thingOf", "(I)LWindBrides$Girl;"⟩, prog_1_method_66_code, 3, (some (.object "WindBrides$Girl")), [
  (0, .aload_n 0, 1), (1, .getfield 10, 3), (4, .getfield 94, 3), (7, .iload_n 1, 1), (8, .iaload, 1), (9, .istore_n 2, 1),
  (10, .aload_n 0, 1), (11, .getfield 10, 3), (14, .getfield 88, 3), (17, .iload_n 1, 1), (18, .iaload, 1), (19, .tableswitch 103 1 5 #[33, 47, 61, 75, 89], 33),
  (52, .new 327, 3), (55, .dup, 1), (56, .iload_n 1, 1), (57, .iload_n 2, 1), (58, .aload_n 0, 1), (59, .getfield 66, 3),
  (62, .invokespecial 329, 3), (65, .areturn, 1), (66, .new 332, 3), (69, .dup, 1), (70, .iload_n 1, 1), (71, .iload_n 2, 1),
  (72, .aload_n 0, 1), (73, .getfield 66, 3), (76, .invokespecial 334, 3), (79, .areturn, 1), (80, .new 335, 3), (83, .dup, 1),
  (84, .iload_n 1, 1), (85, .iload_n 2, 1), (86, .aload_n 0, 1), (87, .getfield 66, 3), (90, .invokespecial 337, 3), (93, .areturn, 1),
  (94, .new 338, 3), (97, .dup, 1), (98, .iload_n 1, 1), (99, .iload_n 2, 1), (100, .aload_n 0, 1), (101, .getfield 66, 3),
  (104, .invokespecial 340, 3), (107, .areturn, 1), (108, .new 341, 3), (111, .dup, 1), (112, .iload_n 1, 1), (113, .iload_n 2, 1),
  (114, .aload_n 0, 1), (115, .getfield 66, 3), (118, .invokespecial 343, 3), (121, .areturn, 1), (122, .new 310, 3), (125, .dup, 1),
  (126, .iload_n 1, 1), (127, .iload_n 2, 1), (128, .aload_n 0, 1), (129, .getfield 66, 3), (132, .invokespecial 344, 3), (135, .areturn, 1)])
set_option maxRecDepth 100000 in
theorem K_Wb_thingOf : mOk M_Wb_thingOf := by decide +kernel
def M_Wb_trace : zM := ("WindBrides", ⟨"WindBrides", "trace", "(I)I"⟩, prog_1_method_67_code, 2, (some .int), [
  (0, .aload_n 0, 1), (1, .getfield 301, 3), (4, .ifnull 27, 3), (7, .iload_n 1, 1), (8, .ifCond .lt 23, 3), (11, .iload_n 1, 1),
  (12, .aload_n 0, 1), (13, .getfield 301, 3), (16, .getfield 345, 3), (19, .if_icmp .ge 12, 3), (22, .aload_n 0, 1), (23, .getfield 66, 3),
  (26, .iload_n 1, 1), (27, .iaload, 1), (28, .goto 5, 3), (31, .bipush (-3), 2), (33, .ireturn, 1)])
set_option maxRecDepth 100000 in
theorem K_Wb_trace : mOk M_Wb_trace := by decide +kernel
def M_Wb_many : zM := ("WindBrides", ⟨"WindBrides", "many", "(I)I"⟩, prog_1_method_68_code, 2, (some .int), [
  (0, .iload_n 1, 1), (1, .tableswitch 135 0 7 #[47, 55, 66, 74, 82, 90, 98, 117], 47), (48, .aload_n 0, 1), (49, .getfield 10, 3), (52, .getfield 76, 3), (55, .ireturn, 1),
  (56, .aload_n 0, 1), (57, .getfield 10, 3), (60, .getfield 170, 3), (63, .getfield 348, 3), (66, .ireturn, 1), (67, .aload_n 0, 1),
  (68, .getfield 10, 3), (71, .getfield 110, 3), (74, .ireturn, 1), (75, .aload_n 0, 1), (76, .getfield 10, 3), (79, .getfield 241, 3),
  (82, .ireturn, 1), (83, .aload_n 0, 1), (84, .getfield 43, 3), (87, .getfield 351, 3), (90, .ireturn, 1), (91, .aload_n 0, 1),
  (92, .getfield 29, 3), (95, .getfield 354, 3), (98, .ireturn, 1), (99, .aload_n 0, 1), (100, .getfield 301, 3), (103, .ifnonnull 7, 3),
  (106, .iconst 0, 1), (107, .goto 10, 3), (110, .aload_n 0, 1), (111, .getfield 301, 3), (114, .getfield 345, 3), (117, .ireturn, 1),
  (118, .aload_n 0, 1), (119, .getfield 10, 3), (122, .getfield 97, 3), (125, .aload_n 0, 1), (126, .getfield 10, 3), (129, .invokevirtual 357, 3),
  (132, .invokestatic 360, 3), (135, .ireturn, 1), (136, .iconst (-1), 1), (137, .ireturn, 1)])
set_option maxRecDepth 100000 in
theorem K_Wb_many : mOk M_Wb_many := by decide +kernel
def M_Wb_keep : zM := ("WindBrides", ⟨"WindBrides", "keep", "()I"⟩, prog_1_method_69_code, 1, (some .int), [
  (0, .aload_n 0, 1), (1, .getfield 16, 3), (4, .aload_n 0, 1), (5, .getfield 10, 3), (8, .invokevirtual 363, 3), (11, .aload_n 0, 1),
  (12, .iconst 1, 1), (13, .putfield 366, 3), (16, .iconst 1, 1), (17, .ireturn, 1)])
set_option maxRecDepth 100000 in
theorem K_Wb_keep : mOk M_Wb_keep := by decide +kernel
def M_Wb_again : zM := ("WindBrides", ⟨"WindBrides", "again", "()I"⟩, prog_1_method_70_code, 1, (some .int), [
  (0, .aload_n 0, 1), (1, .getfield 366, 3), (4, .ifCond .ne 6, 3), (7, .bipush (-3), 2), (9, .ireturn, 1), (10, .aload_n 0, 1),
  (11, .getfield 10, 3), (14, .aload_n 0, 1), (15, .getfield 16, 3), (18, .invokevirtual 363, 3), (21, .aload_n 0, 1), (22, .getfield 10, 3),
  (25, .getfield 76, 3), (28, .ireturn, 1)])
set_option maxRecDepth 100000 in
theorem K_Wb_again : mOk M_Wb_again := by decide +kernel

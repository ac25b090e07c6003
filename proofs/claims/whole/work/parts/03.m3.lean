def M_Mo_init : zM := ("WindBridesModel", ⟨"WindBridesModel", "<init>", "()V"⟩, prog_14_method_1_code, 1, none, [
  (0, .aload_n 0, 1), (1, .invokespecial 1, 3), (4, .aload_n 0, 1), (5, .sipush 618, 3), (8, .newarray .int, 2), (10, .putfield 9, 3),
  (13, .aload_n 0, 1), (14, .sipush 618, 3), (17, .newarray .int, 2), (19, .putfield 13, 3), (22, .aload_n 0, 1), (23, .sipush 618, 3),
  (26, .newarray .int, 2), (28, .putfield 16, 3), (31, .aload_n 0, 1), (32, .sipush 200, 3), (35, .newarray .int, 2), (37, .putfield 19, 3),
  (40, .aload_n 0, 1), (41, .bipush 100, 2), (43, .newarray .boolean, 2), (45, .putfield 22, 3), (48, .aload_n 0, 1), (49, .bipush 6, 2),
  (51, .newarray .int, 2), (53, .putfield 26, 3), (56, .aload_n 0, 1), (57, .bipush 6, 2), (59, .newarray .int, 2), (61, .putfield 29, 3),
  (64, .aload_n 0, 1), (65, .sipush 2472, 3), (68, .newarray .int, 2), (70, .putfield 32, 3), (73, .aload_n 0, 1), (74, .sipush 618, 3),
  (77, .newarray .int, 2), (79, .putfield 35, 3), (82, .aload_n 0, 1), (83, .bipush 12, 2), (85, .newarray .int, 2), (87, .putfield 38, 3),
  (90, .aload_n 0, 1), (91, .iconst 4, 1), (92, .newarray .int, 2), (94, .dup, 1), (95, .iconst 0, 1), (96, .iconst (-1), 1),
  (97, .iastore, 1), (98, .dup, 1), (99, .iconst 1, 1), (100, .iconst (-1), 1), (101, .iastore, 1), (102, .dup, 1),
  (103, .iconst 2, 1), (104, .iconst (-1), 1), (105, .iastore, 1), (106, .dup, 1), (107, .iconst 3, 1), (108, .iconst (-1), 1),
  (109, .iastore, 1), (110, .putfield 41, 3), (113, .aload_n 0, 1), (114, .iconst 4, 1), (115, .newarray .int, 2), (117, .putfield 44, 3),
  (120, .aload_n 0, 1), (121, .sipush 160, 3), (124, .newarray .long, 2), (126, .putfield 47, 3), (129, .aload_n 0, 1), (130, .iconst 4, 1),
  (131, .newarray .int, 2), (133, .dup, 1), (134, .iconst 0, 1), (135, .iconst 2, 1), (136, .iastore, 1), (137, .dup, 1),
  (138, .iconst 1, 1), (139, .iconst 2, 1), (140, .iastore, 1), (141, .dup, 1), (142, .iconst 2, 1), (143, .iconst 2, 1),
  (144, .iastore, 1), (145, .dup, 1), (146, .iconst 3, 1), (147, .iconst 2, 1), (148, .iastore, 1), (149, .putfield 51, 3),
  (152, .aload_n 0, 1), (153, .iconst 4, 1), (154, .newarray .int, 2), (156, .putfield 54, 3), (159, .aload_n 0, 1), (160, .iconst 4, 1),
  (161, .newarray .int, 2), (163, .putfield 57, 3), (166, .aload_n 0, 1), (167, .bipush 30, 2), (169, .newarray .int, 2), (171, .putfield 60, 3),
  (174, .aload_n 0, 1), (175, .getfield 9, 3), (178, .iconst 0, 1), (179, .bipush 12, 2), (181, .iastore, 1), (182, .aload_n 0, 1),
  (183, .getfield 9, 3), (186, .iconst 5, 1), (187, .iconst 1, 1), (188, .iastore, 1), (189, .return_, 1)])
set_option maxRecDepth 100000 in
theorem K_Mo_init : mOk M_Mo_init := by decide +kernel
def M_Mo_girl : zM := ("WindBridesModel", ⟨"WindBridesModel", "girl", "(III)I"⟩, prog_14_method_19_code, 5, (some .int), [
  (0, .iload_n 1, 1), (1, .iconst 1, 1), (2, .iconst 5, 1), (3, .invokestatic 67, 3), (6, .ifCond .eq 23, 3), (9, .iload_n 2, 1),
  (10, .iconst 0, 1), (11, .bipush 7, 2), (13, .invokestatic 67, 3), (16, .ifCond .eq 13, 3), (19, .iload_n 3, 1), (20, .iconst 1, 1),
  (21, .bipush 9, 2), (23, .invokestatic 67, 3), (26, .ifCond .ne 5, 3), (29, .iconst (-1), 1), (30, .ireturn, 1), (31, .aload_n 0, 1),
  (32, .getfield 9, 3), (35, .iconst 3, 1), (36, .iaload, 1), (37, .istore 4, 2), (39, .iload 4, 2), (41, .bipush 6, 2),
  (43, .if_icmp .ne 6, 3), (46, .bipush (-2), 2), (48, .ireturn, 1), (49, .aload_n 0, 1), (50, .getfield 9, 3), (53, .iconst 3, 1),
  (54, .dup2, 1), (55, .iaload, 1), (56, .iconst 1, 1), (57, .iadd, 1), (58, .iastore, 1), (59, .aload_n 0, 1),
  (60, .iload 4, 2), (62, .iconst 0, 1), (63, .iload_n 1, 1), (64, .invokevirtual 88, 3), (67, .aload_n 0, 1), (68, .iload 4, 2),
  (70, .iconst 1, 1), (71, .iload_n 2, 1), (72, .invokevirtual 88, 3), (75, .aload_n 0, 1), (76, .iload 4, 2), (78, .iconst 2, 1),
  (79, .iload_n 3, 1), (80, .invokevirtual 88, 3), (83, .aload_n 0, 1), (84, .iload 4, 2), (86, .iconst 3, 1), (87, .iconst (-1), 1),
  (88, .invokevirtual 88, 3), (91, .aload_n 0, 1), (92, .iload 4, 2), (94, .iconst 4, 1), (95, .iload_n 3, 1), (96, .invokevirtual 88, 3),
  (99, .iload 4, 2), (101, .ireturn, 1)])
set_option maxRecDepth 100000 in
theorem K_Mo_girl : mOk M_Mo_girl := by decide +kernel
def M_Mo_in : zM := ("WindBridesModel", ⟨"WindBridesModel", "in", "(III)Z"⟩, prog_14_method_2_code, 3, (some .boolean), [
  (0, .iload_n 0, 1), (1, .iload_n 1, 1), (2, .if_icmp .lt 12, 3), (5, .iload_n 0, 1), (6, .iload_n 2, 1), (7, .if_icmp .gt 7, 3),
  (10, .iconst 1, 1), (11, .goto 4, 3), (14, .iconst 0, 1), (15, .ireturn, 1)])
set_option maxRecDepth 100000 in
theorem K_Mo_in : mOk M_Mo_in := by decide +kernel
def M_Mo_put : zM := ("WindBridesModel", ⟨"WindBridesModel", "put", "(III)V"⟩, prog_14_method_10_code, 4, none, [
  (0, .aload_n 0, 1), (1, .getfield 9, 3), (4, .bipush 32, 2), (6, .iconst 5, 1), (7, .iload_n 1, 1), (8, .imul, 1),
  (9, .iadd, 1), (10, .iload_n 2, 1), (11, .iadd, 1), (12, .iload_n 3, 1), (13, .iastore, 1), (14, .return_, 1)])
set_option maxRecDepth 100000 in
theorem K_Mo_put : mOk M_Mo_put := by decide +kernel
def M_Mo_girlOf : zM := ("WindBridesModel", ⟨"WindBridesModel", "girlOf", "(II)I"⟩, prog_14_method_21_code, 3, (some .int), [
  (0, .aload_n 0, 1), (1, .iload_n 1, 1), (2, .invokevirtual 92, 3), (5, .ifCond .eq 12, 3), (8, .iload_n 2, 1), (9, .iconst 0, 1),
  (10, .iconst 5, 1), (11, .invokestatic 67, 3), (14, .ifCond .ne 5, 3), (17, .iconst (-1), 1), (18, .ireturn, 1), (19, .iload_n 2, 1),
  (20, .iconst 5, 1), (21, .if_icmp .ne 11, 3), (24, .aload_n 0, 1), (25, .iload_n 1, 1), (26, .invokevirtual 96, 3), (29, .goto 26, 3),
  (32, .iload_n 2, 1), (33, .iconst 3, 1), (34, .if_icmp .ne 15, 3), (37, .aload_n 0, 1), (38, .iload_n 1, 1), (39, .iconst 3, 1),
  (40, .invokevirtual 75, 3), (43, .invokestatic 100, 3), (46, .goto 9, 3), (49, .aload_n 0, 1), (50, .iload_n 1, 1), (51, .iload_n 2, 1),
  (52, .invokevirtual 75, 3), (55, .ireturn, 1)])
set_option maxRecDepth 100000 in
theorem K_Mo_girlOf : mOk M_Mo_girlOf := by decide +kernel
def M_Mo_isGirl : zM := ("WindBridesModel", ⟨"WindBridesModel", "isGirl", "(I)Z"⟩, prog_14_method_7_code, 2, (some .boolean), [
  (0, .iload_n 1, 1), (1, .iconst 0, 1), (2, .aload_n 0, 1), (3, .getfield 9, 3), (6, .iconst 3, 1), (7, .iaload, 1),
  (8, .iconst 1, 1), (9, .isub, 1), (10, .invokestatic 67, 3), (13, .ireturn, 1)])
set_option maxRecDepth 100000 in
theorem K_Mo_isGirl : mOk M_Mo_isGirl := by decide +kernel
def M_Mo_does : zM := ("WindBridesModel", ⟨"WindBridesModel", "does", "(I)I"⟩, prog_14_method_51_code, 4, (some .int), [
  (0, .iconst 0, 1), (1, .istore_n 2, 1), (2, .iload_n 2, 1), (3, .aload_n 0, 1), (4, .getfield 9, 3), (7, .bipush 7, 2),
  (9, .iaload, 1), (10, .if_icmp .ge 52, 3), (13, .bipush 86, 2), (15, .iconst 4, 1), (16, .iload_n 2, 1), (17, .imul, 1),
  (18, .iadd, 1), (19, .istore_n 3, 1), (20, .aload_n 0, 1), (21, .iload_n 1, 1), (22, .iconst 0, 1), (23, .invokevirtual 75, 3),
  (26, .aload_n 0, 1), (27, .getfield 9, 3), (30, .iload_n 3, 1), (31, .iaload, 1), (32, .invokestatic 209, 3), (35, .ifCond .eq 21, 3),
  (38, .aload_n 0, 1), (39, .iload_n 1, 1), (40, .iload_n 3, 1), (41, .invokevirtual 212, 3), (44, .ifCond .eq 12, 3), (47, .aload_n 0, 1),
  (48, .getfield 9, 3), (51, .iload_n 3, 1), (52, .iconst 1, 1), (53, .iadd, 1), (54, .iaload, 1), (55, .ireturn, 1),
  (56, .iinc 2 1, 3), (59, .goto (-57), 3), (62, .iconst 0, 1), (63, .ireturn, 1)])
set_option maxRecDepth 100000 in
theorem K_Mo_does : mOk M_Mo_does := by decide +kernel
def M_Mo_of : zM := ("WindBridesModel", ⟨"WindBridesModel", "of", "(II)I"⟩, prog_14_method_9_code, 3, (some .int), [
  (0, .aload_n 0, 1), (1, .getfield 9, 3), (4, .bipush 32, 2), (6, .iconst 5, 1), (7, .iload_n 1, 1), (8, .imul, 1),
  (9, .iadd, 1), (10, .iload_n 2, 1), (11, .iadd, 1), (12, .iaload, 1), (13, .ireturn, 1)])
set_option maxRecDepth 100000 in
theorem K_Mo_of : mOk M_Mo_of := by decide +kernel
def M_Mo_isUnder : zM := ("WindBridesModel", ⟨"WindBridesModel", "isUnder", "(II)Z"⟩, prog_14_method_18_code, 2, (some .boolean), [
  (0, .iload_n 1, 1), (1, .ifCond .eq 28, 3), (4, .iload_n 0, 1), (5, .iload_n 1, 1), (6, .if_icmp .eq 23, 3), (9, .iload_n 1, 1),
  (10, .iconst 2, 1), (11, .if_icmp .ne 8, 3), (14, .iload_n 0, 1), (15, .iconst 3, 1), (16, .if_icmp .eq 13, 3), (19, .iload_n 1, 1),
  (20, .iconst 4, 1), (21, .if_icmp .ne 12, 3), (24, .iload_n 0, 1), (25, .iconst 5, 1), (26, .if_icmp .ne 7, 3), (29, .iconst 1, 1),
  (30, .goto 4, 3), (33, .iconst 0, 1), (34, .ireturn, 1)])
set_option maxRecDepth 100000 in
theorem K_Mo_isUnder : mOk M_Mo_isUnder := by decide +kernel
def M_Mo_isHolding : zM := ("WindBridesModel", ⟨"WindBridesModel", "isHolding", "(II)Z"⟩, prog_14_method_50_code, 8, (some .boolean), [
  (0, .iconst 0, 1), (1, .istore_n 3, 1), (2, .bipush 118, 2), (4, .aload_n 0, 1), (5, .getfield 9, 3), (8, .iload_n 2, 1),
  (9, .iconst 2, 1), (10, .iadd, 1), (11, .iaload, 1), (12, .iadd, 1), (13, .istore 4, 2), (15, .bipush 118, 2),
  (17, .aload_n 0, 1), (18, .getfield 9, 3), (21, .iload_n 2, 1), (22, .iconst 3, 1), (23, .iadd, 1), (24, .iaload, 1),
  (25, .iadd, 1), (26, .istore 5, 2), (28, .iload 4, 2), (30, .iload 5, 2), (32, .if_icmp .ne 7, 3), (35, .iconst 1, 1),
  (36, .goto 4, 3), (39, .iconst 0, 1), (40, .istore 6, 2), (42, .iload 4, 2), (44, .iload 5, 2), (46, .if_icmp .ge 188, 3),
  (49, .aload_n 0, 1), (50, .getfield 9, 3), (53, .iload 4, 2), (55, .iaload, 1), (56, .istore 7, 2), (58, .iload 7, 2),
  (60, .bipush 17, 2), (62, .if_icmp .ne 33, 3), (65, .aload_n 0, 1), (66, .getfield 22, 3), (69, .iload_n 3, 1), (70, .iconst 1, 1),
  (71, .isub, 1), (72, .aload_n 0, 1), (73, .getfield 22, 3), (76, .iload_n 3, 1), (77, .iconst 1, 1), (78, .isub, 1),
  (79, .baload, 1), (80, .ifCond .ne 7, 3), (83, .iconst 1, 1), (84, .goto 4, 3), (87, .iconst 0, 1), (88, .bastore, 1),
  (89, .iinc 4 1, 3), (92, .goto 139, 3), (95, .iload 7, 2), (97, .bipush 16, 2), (99, .if_icmp .eq 10, 3), (102, .iload 7, 2),
  (104, .bipush 15, 2), (106, .if_icmp .ne 80, 3), (109, .iinc 3 (-1), 3), (112, .aload_n 0, 1), (113, .getfield 22, 3), (116, .iload_n 3, 1),
  (117, .iconst 1, 1), (118, .isub, 1), (119, .iload 7, 2), (121, .bipush 16, 2), (123, .if_icmp .ne 31, 3), (126, .aload_n 0, 1),
  (127, .getfield 22, 3), (130, .iload_n 3, 1), (131, .iconst 1, 1), (132, .isub, 1), (133, .baload, 1), (134, .ifCond .eq 16, 3),
  (137, .aload_n 0, 1), (138, .getfield 22, 3), (141, .iload_n 3, 1), (142, .baload, 1), (143, .ifCond .eq 7, 3), (146, .iconst 1, 1),
  (147, .goto 32, 3), (150, .iconst 0, 1), (151, .goto 28, 3), (154, .aload_n 0, 1), (155, .getfield 22, 3), (158, .iload_n 3, 1),
  (159, .iconst 1, 1), (160, .isub, 1), (161, .baload, 1), (162, .ifCond .ne 12, 3), (165, .aload_n 0, 1), (166, .getfield 22, 3),
  (169, .iload_n 3, 1), (170, .baload, 1), (171, .ifCond .eq 7, 3), (174, .iconst 1, 1), (175, .goto 4, 3), (178, .iconst 0, 1),
  (179, .bastore, 1), (180, .iinc 4 1, 3), (183, .goto 48, 3), (186, .aload_n 0, 1), (187, .getfield 22, 3), (190, .iload_n 3, 1),
  (191, .iload 7, 2), (193, .aload_n 0, 1), (194, .iload_n 1, 1), (195, .aload_n 0, 1), (196, .getfield 9, 3), (199, .iload 4, 2),
  (201, .iconst 1, 1), (202, .iadd, 1), (203, .iaload, 1), (204, .invokevirtual 203, 3), (207, .aload_n 0, 1), (208, .iload_n 1, 1),
  (209, .aload_n 0, 1), (210, .getfield 9, 3), (213, .iload 4, 2), (215, .iconst 2, 1), (216, .iadd, 1), (217, .iaload, 1),
  (218, .invokevirtual 203, 3), (221, .invokestatic 206, 3), (224, .bastore, 1), (225, .iinc 3 1, 3), (228, .iinc 4 3, 3), (231, .goto (-189), 3),
  (234, .iload 6, 2), (236, .ifCond .ne 12, 3), (239, .aload_n 0, 1), (240, .getfield 22, 3), (243, .iconst 0, 1), (244, .baload, 1),
  (245, .ifCond .eq 7, 3), (248, .iconst 1, 1), (249, .goto 4, 3), (252, .iconst 0, 1), (253, .ireturn, 1)])
set_option maxRecDepth 100000 in
theorem K_Mo_isHolding : mOk M_Mo_isHolding := by decide +kernel
def M_Mo_factOf : zM := ("WindBridesModel", ⟨"WindBridesModel", "factOf", "(II)I"⟩, prog_14_method_48_code, 3, (some .int), [
  (0, .iload_n 2, 1), (1, .tableswitch 65 (-5) (-1) #[63, 56, 49, 42, 35], 35), (36, .aload_n 0, 1), (37, .getfield 9, 3), (40, .iconst 1, 1), (41, .iaload, 1),
  (42, .ireturn, 1), (43, .aload_n 0, 1), (44, .iload_n 1, 1), (45, .iconst 4, 1), (46, .invokevirtual 75, 3), (49, .ireturn, 1),
  (50, .aload_n 0, 1), (51, .iload_n 1, 1), (52, .iconst 2, 1), (53, .invokevirtual 75, 3), (56, .ireturn, 1), (57, .aload_n 0, 1),
  (58, .iload_n 1, 1), (59, .iconst 1, 1), (60, .invokevirtual 75, 3), (63, .ireturn, 1), (64, .iload_n 1, 1), (65, .ireturn, 1),
  (66, .iload_n 2, 1), (67, .ireturn, 1)])
set_option maxRecDepth 100000 in
theorem K_Mo_factOf : mOk M_Mo_factOf := by decide +kernel
def M_Mo_isSo : zM := ("WindBridesModel", ⟨"WindBridesModel", "isSo", "(III)Z"⟩, prog_14_method_49_code, 3, (some .boolean), [
  (0, .iload_n 0, 1), (1, .bipush 60, 2), (3, .if_icmp .ne 16, 3), (6, .iload_n 1, 1), (7, .iload_n 2, 1), (8, .if_icmp .ge 7, 3),
  (11, .iconst 1, 1), (12, .goto 36, 3), (15, .iconst 0, 1), (16, .goto 32, 3), (19, .iload_n 0, 1), (20, .bipush 61, 2),
  (22, .if_icmp .ne 16, 3), (25, .iload_n 1, 1), (26, .iload_n 2, 1), (27, .if_icmp .ne 7, 3), (30, .iconst 1, 1), (31, .goto 17, 3),
  (34, .iconst 0, 1), (35, .goto 13, 3), (38, .iload_n 1, 1), (39, .iload_n 2, 1), (40, .if_icmp .le 7, 3), (43, .iconst 1, 1),
  (44, .goto 4, 3), (47, .iconst 0, 1), (48, .ireturn, 1)])
set_option maxRecDepth 100000 in
theorem K_Mo_isSo : mOk M_Mo_isSo := by decide +kernel
def M_Mo_orSix : zM := ("WindBridesModel", ⟨"WindBridesModel", "orSix", "(I)I"⟩, prog_14_method_20_code, 1, (some .int), [
  (0, .iload_n 0, 1), (1, .ifCond .ge 8, 3), (4, .bipush 6, 2), (6, .goto 4, 3), (9, .iload_n 0, 1), (10, .ireturn, 1)])
set_option maxRecDepth 100000 in
theorem K_Mo_orSix : mOk M_Mo_orSix := by decide +kernel
def M_Mo_change : zM := ("WindBridesModel", ⟨"WindBridesModel", "change", "(III)I"⟩, prog_14_method_22_code, 5, (some .int), [
  (0, .aload_n 0, 1), (1, .iload_n 1, 1), (2, .invokevirtual 92, 3), (5, .ifCond .eq 38, 3), (8, .iload_n 2, 1), (9, .iconst 1, 1),
  (10, .iconst 2, 1), (11, .invokestatic 67, 3), (14, .ifCond .eq 29, 3), (17, .iload_n 3, 1), (18, .iload_n 2, 1), (19, .iconst 1, 1),
  (20, .isub, 1), (21, .iload_n 2, 1), (22, .iconst 1, 1), (23, .if_icmp .ne 8, 3), (26, .bipush 7, 2), (28, .goto 5, 3),
  (31, .bipush 9, 2), (33, .invokestatic 67, 3), (36, .ifCond .eq 7, 3), (39, .iconst 1, 1), (40, .goto 4, 3), (43, .iconst 0, 1),
  (44, .istore 4, 2), (46, .iload 4, 2), (48, .ifCond .eq 19, 3), (51, .aload_n 0, 1), (52, .bipush 32, 2), (54, .iconst 5, 1),
  (55, .iload_n 1, 1), (56, .imul, 1), (57, .iadd, 1), (58, .iload_n 2, 1), (59, .iadd, 1), (60, .iload_n 3, 1),
  (61, .invokevirtual 103, 3), (64, .goto 4, 3), (67, .iconst (-1), 1), (68, .ireturn, 1)])
set_option maxRecDepth 100000 in
theorem K_Mo_change : mOk M_Mo_change := by decide +kernel
def M_Mo_becomes : zM := ("WindBridesModel", ⟨"WindBridesModel", "becomes", "(II)I"⟩, prog_14_method_6_code, 4, (some .int), [
  (0, .aload_n 0, 1), (1, .getfield 9, 3), (4, .iload_n 1, 1), (5, .iaload, 1), (6, .istore_n 3, 1), (7, .aload_n 0, 1),
  (8, .getfield 9, 3), (11, .iload_n 1, 1), (12, .iload_n 2, 1), (13, .iastore, 1), (14, .iload_n 3, 1), (15, .ireturn, 1)])
set_option maxRecDepth 100000 in
theorem K_Mo_becomes : mOk M_Mo_becomes := by decide +kernel
def M_Mo_remake : zM := ("WindBridesModel", ⟨"WindBridesModel", "remake", "(II)I"⟩, prog_14_method_23_code, 3, (some .int), [
  (0, .aload_n 0, 1), (1, .iload_n 1, 1), (2, .invokevirtual 92, 3), (5, .ifCond .eq 26, 3), (8, .iload_n 2, 1), (9, .iconst 1, 1),
  (10, .iconst 5, 1), (11, .invokestatic 67, 3), (14, .ifCond .eq 17, 3), (17, .aload_n 0, 1), (18, .bipush 32, 2), (20, .iconst 5, 1),
  (21, .iload_n 1, 1), (22, .imul, 1), (23, .iadd, 1), (24, .iload_n 2, 1), (25, .invokevirtual 103, 3), (28, .goto 4, 3),
  (31, .iconst (-1), 1), (32, .ireturn, 1)])
set_option maxRecDepth 100000 in
theorem K_Mo_remake : mOk M_Mo_remake := by decide +kernel
def M_Mo_wind : zM := ("WindBridesModel", ⟨"WindBridesModel", "wind", "(IIII)I"⟩, prog_14_method_24_code, 6, (some .int), [
  (0, .iload_n 1, 1), (1, .iconst 0, 1), (2, .bipush 7, 2), (4, .invokestatic 67, 3), (7, .ifCond .eq 34, 3), (10, .iload_n 2, 1),
  (11, .iconst 1, 1), (12, .bipush 9, 2), (14, .invokestatic 67, 3), (17, .ifCond .eq 24, 3), (20, .iload_n 3, 1), (21, .iconst 0, 1),
  (22, .bipush 15, 2), (24, .invokestatic 67, 3), (27, .ifCond .eq 14, 3), (30, .iload 4, 2), (32, .iload_n 3, 1), (33, .bipush 15, 2),
  (35, .invokestatic 67, 3), (38, .ifCond .ne 5, 3), (41, .iconst (-1), 1), (42, .ireturn, 1), (43, .aload_n 0, 1), (44, .getfield 9, 3),
  (47, .iconst 2, 1), (48, .iaload, 1), (49, .istore 5, 2), (51, .iload 5, 2), (53, .bipush 6, 2), (55, .if_icmp .ne 6, 3),
  (58, .bipush (-2), 2), (60, .ireturn, 1), (61, .aload_n 0, 1), (62, .getfield 9, 3), (65, .iconst 2, 1), (66, .dup2, 1),
  (67, .iaload, 1), (68, .iconst 1, 1), (69, .iadd, 1), (70, .iastore, 1), (71, .aload_n 0, 1), (72, .getfield 9, 3),
  (75, .bipush 8, 2), (77, .iconst 4, 1), (78, .iload 5, 2), (80, .imul, 1), (81, .iadd, 1), (82, .iload_n 1, 1),
  (83, .iastore, 1), (84, .aload_n 0, 1), (85, .getfield 9, 3), (88, .bipush 8, 2), (90, .iconst 4, 1), (91, .iload 5, 2),
  (93, .imul, 1), (94, .iadd, 1), (95, .iconst 1, 1), (96, .iadd, 1), (97, .iload_n 2, 1), (98, .iastore, 1),
  (99, .aload_n 0, 1), (100, .getfield 9, 3), (103, .bipush 8, 2), (105, .iconst 4, 1), (106, .iload 5, 2), (108, .imul, 1),
  (109, .iadd, 1), (110, .iconst 2, 1), (111, .iadd, 1), (112, .iload_n 3, 1), (113, .iastore, 1), (114, .aload_n 0, 1),
  (115, .getfield 9, 3), (118, .bipush 8, 2), (120, .iconst 4, 1), (121, .iload 5, 2), (123, .imul, 1), (124, .iadd, 1),
  (125, .iconst 3, 1), (126, .iadd, 1), (127, .iload 4, 2), (129, .iastore, 1), (130, .iload 5, 2), (132, .ireturn, 1)])
set_option maxRecDepth 100000 in
theorem K_Mo_wind : mOk M_Mo_wind := by decide +kernel
def M_Mo_windOf : zM := ("WindBridesModel", ⟨"WindBridesModel", "windOf", "(II)I"⟩, prog_14_method_27_code, 3, (some .int), [
  (0, .aload_n 0, 1), (1, .iload_n 1, 1), (2, .invokevirtual 106, 3), (5, .ifCond .eq 12, 3), (8, .iload_n 2, 1), (9, .iconst 0, 1),
  (10, .iconst 5, 1), (11, .invokestatic 67, 3), (14, .ifCond .ne 5, 3), (17, .iconst (-1), 1), (18, .ireturn, 1), (19, .iload_n 2, 1),
  (20, .iconst 4, 1), (21, .if_icmp .ge 12, 3), (24, .aload_n 0, 1), (25, .iload_n 1, 1), (26, .iload_n 2, 1), (27, .invokevirtual 71, 3),
  (30, .goto 35, 3), (33, .iload_n 2, 1), (34, .iconst 4, 1), (35, .if_icmp .ne 11, 3), (38, .aload_n 0, 1), (39, .iload_n 1, 1),
  (40, .invokevirtual 109, 3), (43, .goto 22, 3), (46, .aload_n 0, 1), (47, .iload_n 1, 1), (48, .aload_n 0, 1), (49, .getfield 9, 3),
  (52, .iconst 1, 1), (53, .iaload, 1), (54, .invokevirtual 112, 3), (57, .ifCond .eq 7, 3), (60, .iconst 1, 1), (61, .goto 4, 3),
  (64, .iconst 0, 1), (65, .ireturn, 1)])
set_option maxRecDepth 100000 in
theorem K_Mo_windOf : mOk M_Mo_windOf := by decide +kernel
def M_Mo_isWind : zM := ("WindBridesModel", ⟨"WindBridesModel", "isWind", "(I)Z"⟩, prog_14_method_8_code, 2, (some .boolean), [
  (0, .iload_n 1, 1), (1, .iconst 0, 1), (2, .aload_n 0, 1), (3, .getfield 9, 3), (6, .iconst 2, 1), (7, .iaload, 1),
  (8, .iconst 1, 1), (9, .isub, 1), (10, .invokestatic 67, 3), (13, .ireturn, 1)])
set_option maxRecDepth 100000 in
theorem K_Mo_isWind : mOk M_Mo_isWind := by decide +kernel
def M_Mo_blowing : zM := ("WindBridesModel", ⟨"WindBridesModel", "blowing", "(II)I"⟩, prog_14_method_11_code, 3, (some .int), [
  (0, .aload_n 0, 1), (1, .getfield 9, 3), (4, .bipush 8, 2), (6, .iconst 4, 1), (7, .iload_n 1, 1), (8, .imul, 1),
  (9, .iadd, 1), (10, .iload_n 2, 1), (11, .iadd, 1), (12, .iaload, 1), (13, .ireturn, 1)])
set_option maxRecDepth 100000 in
theorem K_Mo_blowing : mOk M_Mo_blowing := by decide +kernel
def M_Mo_promisedTo : zM := ("WindBridesModel", ⟨"WindBridesModel", "promisedTo", "(I)I"⟩, prog_14_method_25_code, 4, (some .int), [
  (0, .iconst 0, 1), (1, .istore_n 2, 1), (2, .iconst 0, 1), (3, .istore_n 3, 1), (4, .iload_n 3, 1), (5, .aload_n 0, 1),
  (6, .getfield 9, 3), (9, .iconst 3, 1), (10, .iaload, 1), (11, .if_icmp .ge 29, 3), (14, .iload_n 2, 1), (15, .aload_n 0, 1),
  (16, .iload_n 3, 1), (17, .iconst 3, 1), (18, .invokevirtual 75, 3), (21, .iload_n 1, 1), (22, .if_icmp .ne 9, 3), (25, .iconst 1, 1),
  (26, .iload_n 3, 1), (27, .ishl, 1), (28, .goto 4, 3), (31, .iconst 0, 1), (32, .ior, 1), (33, .istore_n 2, 1),
  (34, .iinc 3 1, 3), (37, .goto (-33), 3), (40, .iload_n 2, 1), (41, .ireturn, 1)])
set_option maxRecDepth 100000 in
theorem K_Mo_promisedTo : mOk M_Mo_promisedTo := by decide +kernel
def M_Mo_blows : zM := ("WindBridesModel", ⟨"WindBridesModel", "blows", "(II)Z"⟩, prog_14_method_12_code, 3, (some .boolean), [
  (0, .iload_n 2, 1), (1, .aload_n 0, 1), (2, .iload_n 1, 1), (3, .iconst 2, 1), (4, .invokevirtual 71, 3), (7, .aload_n 0, 1),
  (8, .iload_n 1, 1), (9, .iconst 3, 1), (10, .invokevirtual 71, 3), (13, .invokestatic 67, 3), (16, .ireturn, 1)])
set_option maxRecDepth 100000 in
theorem K_Mo_blows : mOk M_Mo_blows := by decide +kernel
def M_Mo_promise : zM := ("WindBridesModel", ⟨"WindBridesModel", "promise", "(II)I"⟩, prog_14_method_29_code, 4, (some .int), [
  (0, .aload_n 0, 1), (1, .iload_n 1, 1), (2, .invokevirtual 92, 3), (5, .ifCond .eq 16, 3), (8, .iload_n 2, 1), (9, .iconst (-1), 1),
  (10, .if_icmp .eq 13, 3), (13, .aload_n 0, 1), (14, .iload_n 2, 1), (15, .invokevirtual 106, 3), (18, .ifCond .ne 5, 3), (21, .iconst (-1), 1),
  (22, .ireturn, 1), (23, .aload_n 0, 1), (24, .iload_n 1, 1), (25, .iconst 3, 1), (26, .invokevirtual 75, 3), (29, .invokestatic 100, 3),
  (32, .istore_n 3, 1), (33, .aload_n 0, 1), (34, .iload_n 1, 1), (35, .iload_n 2, 1), (36, .invokevirtual 116, 3), (39, .iload_n 3, 1),
  (40, .ireturn, 1)])
set_option maxRecDepth 100000 in
theorem K_Mo_promise : mOk M_Mo_promise := by decide +kernel
def M_Mo_gets : zM := ("WindBridesModel", ⟨"WindBridesModel", "gets", "(II)V"⟩, prog_14_method_28_code, 3, none, [
  (0, .aload_n 0, 1), (1, .iload_n 1, 1), (2, .iconst 3, 1), (3, .iload_n 2, 1), (4, .invokevirtual 88, 3), (7, .aload_n 0, 1),
  (8, .iload_n 1, 1), (9, .iconst 4, 1), (10, .aload_n 0, 1), (11, .iload_n 1, 1), (12, .iconst 2, 1), (13, .invokevirtual 75, 3),
  (16, .invokevirtual 88, 3), (19, .return_, 1)])
set_option maxRecDepth 100000 in
theorem K_Mo_gets : mOk M_Mo_gets := by decide +kernel
def M_Mo_gain : zM := ("WindBridesModel", ⟨"WindBridesModel", "gain", "(III)I"⟩, prog_14_method_30_code, 4, (some .int), [
  (0, .aload_n 0, 1), (1, .iload_n 1, 1), (2, .invokevirtual 92, 3), (5, .ifCond .eq 31, 3), (8, .aload_n 0, 1), (9, .iload_n 2, 1),
  (10, .invokevirtual 106, 3), (13, .ifCond .eq 23, 3), (16, .iload_n 3, 1), (17, .iconst 0, 1), (18, .bipush 15, 2), (20, .invokestatic 67, 3),
  (23, .ifCond .eq 13, 3), (26, .aload_n 0, 1), (27, .iload_n 1, 1), (28, .iload_n 2, 1), (29, .iload_n 3, 1), (30, .invokevirtual 120, 3),
  (33, .goto 4, 3), (36, .iconst (-1), 1), (37, .ireturn, 1)])
set_option maxRecDepth 100000 in
theorem K_Mo_gain : mOk M_Mo_gain := by decide +kernel
def M_Mo_gainOf : zM := ("WindBridesModel", ⟨"WindBridesModel", "gainOf", "(III)I"⟩, prog_14_method_17_code, 4, (some .int), [
  (0, .aload_n 0, 1), (1, .iload_n 1, 1), (2, .iconst 0, 1), (3, .invokevirtual 75, 3), (6, .aload_n 0, 1), (7, .iload_n 1, 1),
  (8, .iload_n 2, 1), (9, .invokevirtual 81, 3), (12, .aload_n 0, 1), (13, .iload_n 2, 1), (14, .iconst 1, 1), (15, .invokevirtual 71, 3),
  (18, .iload_n 3, 1), (19, .invokestatic 84, 3), (22, .ireturn, 1)])
set_option maxRecDepth 100000 in
theorem K_Mo_gainOf : mOk M_Mo_gainOf := by decide +kernel
def M_Mo_turnOf : zM := ("WindBridesModel", ⟨"WindBridesModel", "turnOf", "(II)I"⟩, prog_14_method_16_code, 3, (some .int), [
  (0, .aload_n 0, 1), (1, .iload_n 1, 1), (2, .iconst 1, 1), (3, .invokevirtual 75, 3), (6, .aload_n 0, 1), (7, .iload_n 2, 1),
  (8, .iconst 0, 1), (9, .invokevirtual 71, 3), (12, .invokestatic 78, 3), (15, .ireturn, 1)])
set_option maxRecDepth 100000 in
theorem K_Mo_turnOf : mOk M_Mo_turnOf := by decide +kernel
def M_Mo_apart : zM := ("WindBridesModel", ⟨"WindBridesModel", "apart", "(II)I"⟩, prog_14_method_14_code, 3, (some .int), [
  (0, .iload_n 0, 1), (1, .iload_n 1, 1), (2, .if_icmp .ge 9, 3), (5, .iload_n 1, 1), (6, .iload_n 0, 1), (7, .isub, 1),
  (8, .goto 6, 3), (11, .iload_n 0, 1), (12, .iload_n 1, 1), (13, .isub, 1), (14, .istore_n 2, 1), (15, .iload_n 2, 1),
  (16, .bipush 8, 2), (18, .iload_n 2, 1), (19, .isub, 1), (20, .if_icmp .ge 7, 3), (23, .iload_n 2, 1), (24, .goto 7, 3),
  (27, .bipush 8, 2), (29, .iload_n 2, 1), (30, .isub, 1), (31, .ireturn, 1)])
set_option maxRecDepth 100000 in
theorem K_Mo_apart : mOk M_Mo_apart := by decide +kernel
def M_Mo_gains : zM := ("WindBridesModel", ⟨"WindBridesModel", "gains", "(IIII)I"⟩, prog_14_method_15_code, 7, (some .int), [
  (0, .iload_n 2, 1), (1, .iload_n 1, 1), (2, .if_icmp .le 9, 3), (5, .iload_n 2, 1), (6, .iload_n 1, 1), (7, .isub, 1),
  (8, .goto 4, 3), (11, .iconst 0, 1), (12, .istore 4, 2), (14, .iload_n 2, 1), (15, .iload_n 1, 1), (16, .iconst 2, 1),
  (17, .idiv, 1), (18, .if_icmp .le 11, 3), (21, .iload_n 2, 1), (22, .iload_n 1, 1), (23, .iconst 2, 1), (24, .idiv, 1),
  (25, .isub, 1), (26, .goto 4, 3), (29, .iconst 0, 1), (30, .istore 5, 2), (32, .iload_n 3, 1), (33, .iconst 3, 1),
  (34, .if_icmp .ge 7, 3), (37, .iconst 0, 1), (38, .goto 5, 3), (41, .iload 4, 2), (43, .istore 6, 2), (45, .iload_n 0, 1),
  (46, .tableswitch 58 1 5 #[34, 39, 42, 47, 50], 34), (80, .iload 4, 2), (82, .iconst 2, 1), (83, .idiv, 1), (84, .ireturn, 1), (85, .iload 5, 2),
  (87, .ireturn, 1), (88, .iload 5, 2), (90, .iconst 1, 1), (91, .iadd, 1), (92, .ireturn, 1), (93, .iload 6, 2),
  (95, .ireturn, 1), (96, .iload 6, 2), (98, .bipush 9, 2), (100, .iadd, 1), (101, .iload_n 2, 1), (102, .isub, 1),
  (103, .ireturn, 1), (104, .iload 4, 2), (106, .ireturn, 1)])
set_option maxRecDepth 100000 in
theorem K_Mo_gains : mOk M_Mo_gains := by decide +kernel
def M_Mo_ends : zM := ("WindBridesModel", ⟨"WindBridesModel", "ends", "(I)I"⟩, prog_14_method_31_code, 2, (some .int), [
  (0, .iload_n 1, 1), (1, .iconst 1, 1), (2, .bipush 16, 2), (4, .invokestatic 67, 3), (7, .ifCond .ne 5, 3), (10, .iconst (-1), 1),
  (11, .ireturn, 1), (12, .iload_n 1, 1), (13, .aload_n 0, 1), (14, .getfield 9, 3), (17, .iconst 1, 1), (18, .iaload, 1),
  (19, .if_icmp .ge 8, 3), (22, .bipush (-4), 2), (24, .goto 9, 3), (27, .aload_n 0, 1), (28, .iconst 0, 1), (29, .iload_n 1, 1),
  (30, .invokevirtual 103, 3), (33, .ireturn, 1)])
set_option maxRecDepth 100000 in
theorem K_Mo_ends : mOk M_Mo_ends := by decide +kernel
def M_Mo_anew : zM := ("WindBridesModel", ⟨"WindBridesModel", "anew", "()I"⟩, prog_14_method_32_code, 3, (some .int), [
  (0, .aload_n 0, 1), (1, .getfield 9, 3), (4, .iconst 1, 1), (5, .iaload, 1), (6, .istore_n 1, 1), (7, .aload_n 0, 1),
  (8, .getfield 9, 3), (11, .iconst 1, 1), (12, .iconst 0, 1), (13, .iastore, 1), (14, .aload_n 0, 1), (15, .getfield 9, 3),
  (18, .iconst 4, 1), (19, .iconst 0, 1), (20, .iastore, 1), (21, .iconst 0, 1), (22, .istore_n 2, 1), (23, .iload_n 2, 1),
  (24, .aload_n 0, 1), (25, .getfield 9, 3), (28, .iconst 3, 1), (29, .iaload, 1), (30, .if_icmp .ge 21, 3), (33, .aload_n 0, 1),
  (34, .iload_n 2, 1), (35, .iconst 4, 1), (36, .aload_n 0, 1), (37, .iload_n 2, 1), (38, .iconst 2, 1), (39, .invokevirtual 75, 3),
  (42, .invokevirtual 88, 3), (45, .iinc 2 1, 3), (48, .goto (-25), 3), (51, .iload_n 1, 1), (52, .ireturn, 1)])
set_option maxRecDepth 100000 in
theorem K_Mo_anew : mOk M_Mo_anew := by decide +kernel
def M_Mo_state : zM := ("WindBridesModel", ⟨"WindBridesModel", "state", "(I)I"⟩, prog_14_method_33_code, 2, (some .int), [
  (0, .iload_n 1, 1), (1, .tableswitch 65 0 3 #[31, 38, 45, 52], 31), (32, .aload_n 0, 1), (33, .getfield 9, 3), (36, .iconst 1, 1), (37, .iaload, 1),
  (38, .ireturn, 1), (39, .aload_n 0, 1), (40, .getfield 9, 3), (43, .iconst 0, 1), (44, .iaload, 1), (45, .ireturn, 1),
  (46, .aload_n 0, 1), (47, .getfield 9, 3), (50, .iconst 4, 1), (51, .iaload, 1), (52, .ireturn, 1), (53, .aload_n 0, 1),
  (54, .invokevirtual 124, 3), (57, .ifCond .eq 7, 3), (60, .iconst 1, 1), (61, .goto 4, 3), (64, .iconst 0, 1), (65, .ireturn, 1),
  (66, .iconst (-1), 1), (67, .ireturn, 1)])
set_option maxRecDepth 100000 in
theorem K_Mo_state : mOk M_Mo_state := by decide +kernel
def M_Mo_isOver : zM := ("WindBridesModel", ⟨"WindBridesModel", "isOver", "()Z"⟩, prog_14_method_13_code, 1, (some .boolean), [
  (0, .aload_n 0, 1), (1, .getfield 9, 3), (4, .iconst 1, 1), (5, .iaload, 1), (6, .aload_n 0, 1), (7, .getfield 9, 3),
  (10, .iconst 0, 1), (11, .iaload, 1), (12, .if_icmp .lt 7, 3), (15, .iconst 1, 1), (16, .goto 4, 3), (19, .iconst 0, 1),
  (20, .ireturn, 1)])
set_option maxRecDepth 100000 in
theorem K_Mo_isOver : mOk M_Mo_isOver := by decide +kernel
def M_Mo_feed : zM := ("WindBridesModel", ⟨"WindBridesModel", "feed", "(JI)I"⟩, prog_14_method_34_code, 5, (some .int), [
  (0, .iload_n 3, 1), (1, .iconst 1, 1), (2, .bipush 8, 2), (4, .invokestatic 67, 3), (7, .ifCond .ne 5, 3), (10, .iconst (-1), 1),
  (11, .ireturn, 1), (12, .aload_n 0, 1), (13, .getfield 128, 3), (16, .iload_n 3, 1), (17, .iadd, 1), (18, .sipush 200, 3),
  (21, .if_icmp .le 6, 3), (24, .bipush (-2), 2), (26, .ireturn, 1), (27, .iconst 0, 1), (28, .istore 4, 2), (30, .iload 4, 2),
  (32, .iload_n 3, 1), (33, .if_icmp .ge 40, 3), (36, .aload_n 0, 1), (37, .getfield 19, 3), (40, .aload_n 0, 1), (41, .getfield 128, 3),
  (44, .lload_n 1, 1), (45, .bipush 8, 2), (47, .iload 4, 2), (49, .imul, 1), (50, .lshr, 1), (51, .ldc2_w 132, 3),
  (54, .land, 1), (55, .l2i, 1), (56, .iastore, 1), (57, .aload_n 0, 1), (58, .dup, 1), (59, .getfield 128, 3),
  (62, .iconst 1, 1), (63, .iadd, 1), (64, .putfield 128, 3), (67, .iinc 4 1, 3), (70, .goto (-40), 3), (73, .aload_n 0, 1),
  (74, .getfield 128, 3), (77, .ireturn, 1)])
set_option maxRecDepth 100000 in
theorem K_Mo_feed : mOk M_Mo_feed := by decide +kernel
def M_Mo_rules : zM := ("WindBridesModel", ⟨"WindBridesModel", "rules", "()I"⟩, prog_14_method_47_code, 1, (some .int), [
  (0, .aload_n 0, 1), (1, .invokevirtual 194, 3), (4, .aload_n 0, 1), (5, .getfield 9, 3), (8, .bipush 7, 2), (10, .iconst 0, 1),
  (11, .iastore, 1), (12, .aload_n 0, 1), (13, .iconst 0, 1), (14, .putfield 140, 3), (17, .aload_n 0, 1), (18, .iconst 0, 1),
  (19, .putfield 162, 3), (22, .aload_n 0, 1), (23, .iconst 0, 1), (24, .putfield 175, 3), (27, .aload_n 0, 1), (28, .iconst 0, 1),
  (29, .putfield 169, 3), (32, .aload_n 0, 1), (33, .invokevirtual 166, 3), (36, .aload_n 0, 1), (37, .getfield 162, 3), (40, .ifCond .ne 19, 3),
  (43, .aload_n 0, 1), (44, .getfield 152, 3), (47, .bipush 25, 2), (49, .if_icmp .eq 10, 3), (52, .aload_n 0, 1), (53, .invokevirtual 197, 3),
  (56, .goto (-20), 3), (59, .aload_n 0, 1), (60, .iconst 0, 1), (61, .putfield 128, 3), (64, .aload_n 0, 1), (65, .getfield 162, 3),
  (68, .ifCond .eq 15, 3), (71, .aload_n 0, 1), (72, .invokevirtual 200, 3), (75, .bipush (-100), 2), (77, .aload_n 0, 1), (78, .getfield 137, 3),
  (81, .isub, 1), (82, .ireturn, 1), (83, .aload_n 0, 1), (84, .getfield 9, 3), (87, .bipush 7, 2), (89, .iaload, 1),
  (90, .ireturn, 1)])
set_option maxRecDepth 100000 in
theorem K_Mo_rules : mOk M_Mo_rules := by decide +kernel
def M_Mo_thinks : zM := ("WindBridesModel", ⟨"WindBridesModel", "thinks", "()V"⟩, prog_14_method_4_code, 1, none, [
  (0, .aload_n 0, 1), (1, .getfield 9, 3), (4, .aload_n 0, 1), (5, .getfield 16, 3), (8, .invokestatic 63, 3), (11, .return_, 1)])
set_option maxRecDepth 100000 in
theorem K_Mo_thinks : mOk M_Mo_thinks := by decide +kernel
def M_Mo_copyAll : zM := ("WindBridesModel", ⟨"WindBridesModel", "copyAll", "([I[I)V"⟩, prog_14_method_3_code, 3, none, [
  (0, .iconst 0, 1), (1, .istore_n 2, 1), (2, .iload_n 2, 1), (3, .sipush 618, 3), (6, .if_icmp .ge 15, 3), (9, .aload_n 1, 1),
  (10, .iload_n 2, 1), (11, .aload_n 0, 1), (12, .iload_n 2, 1), (13, .iaload, 1), (14, .iastore, 1), (15, .iinc 2 1, 3),
  (18, .goto (-16), 3), (21, .return_, 1)])
set_option maxRecDepth 100000 in
theorem K_Mo_copyAll : mOk M_Mo_copyAll := by decide +kernel
def M_Mo_reads : zM := ("WindBridesModel", ⟨"WindBridesModel", "reads", "()V"⟩, prog_14_method_39_code, 1, none, [
  (0, .aload_n 0, 1), (1, .aload_n 0, 1), (2, .getfield 140, 3), (5, .bipush 32, 2), (7, .bipush 32, 2), (9, .invokevirtual 146, 3),
  (12, .ifCond .eq 16, 3), (15, .aload_n 0, 1), (16, .dup, 1), (17, .getfield 140, 3), (20, .iconst 1, 1), (21, .iadd, 1),
  (22, .putfield 140, 3), (25, .goto (-25), 3), (28, .aload_n 0, 1), (29, .aload_n 0, 1), (30, .getfield 140, 3), (33, .putfield 137, 3),
  (36, .aload_n 0, 1), (37, .iconst 0, 1), (38, .putfield 149, 3), (41, .aload_n 0, 1), (42, .getfield 140, 3), (45, .aload_n 0, 1),
  (46, .getfield 128, 3), (49, .if_icmp .ne 12, 3), (52, .aload_n 0, 1), (53, .bipush 25, 2), (55, .putfield 152, 3), (58, .goto 210, 3),
  (61, .aload_n 0, 1), (62, .aload_n 0, 1), (63, .getfield 140, 3), (66, .bipush 97, 2), (68, .bipush 122, 2), (70, .invokevirtual 146, 3),
  (73, .ifCond .eq 42, 3), (76, .aload_n 0, 1), (77, .aload_n 0, 1), (78, .getfield 140, 3), (81, .bipush 97, 2), (83, .bipush 122, 2),
  (85, .invokevirtual 146, 3), (88, .ifCond .eq 16, 3), (91, .aload_n 0, 1), (92, .dup, 1), (93, .getfield 140, 3), (96, .iconst 1, 1),
  (97, .iadd, 1), (98, .putfield 140, 3), (101, .goto (-25), 3), (104, .aload_n 0, 1), (105, .aload_n 0, 1), (106, .invokevirtual 155, 3),
  (109, .putfield 152, 3), (112, .goto 156, 3), (115, .aload_n 0, 1), (116, .aload_n 0, 1), (117, .getfield 140, 3), (120, .bipush 48, 2),
  (122, .bipush 57, 2), (124, .invokevirtual 146, 3), (127, .ifCond .eq 102, 3), (130, .aload_n 0, 1), (131, .aload_n 0, 1), (132, .getfield 140, 3),
  (135, .bipush 48, 2), (137, .bipush 57, 2), (139, .invokevirtual 146, 3), (142, .ifCond .eq 60, 3), (145, .aload_n 0, 1), (146, .aload_n 0, 1),
  (147, .getfield 140, 3), (150, .aload_n 0, 1), (151, .getfield 137, 3), (154, .isub, 1), (155, .iconst 3, 1), (156, .if_icmp .le 10, 3),
  (159, .aload_n 0, 1), (160, .getfield 149, 3), (163, .goto 23, 3), (166, .bipush 10, 2), (168, .aload_n 0, 1), (169, .getfield 149, 3),
  (172, .imul, 1), (173, .aload_n 0, 1), (174, .getfield 19, 3), (177, .aload_n 0, 1), (178, .getfield 140, 3), (181, .iaload, 1),
  (182, .iadd, 1), (183, .bipush 48, 2), (185, .isub, 1), (186, .putfield 149, 3), (189, .aload_n 0, 1), (190, .dup, 1),
  (191, .getfield 140, 3), (194, .iconst 1, 1), (195, .iadd, 1), (196, .putfield 140, 3), (199, .goto (-69), 3), (202, .aload_n 0, 1),
  (203, .aload_n 0, 1), (204, .getfield 140, 3), (207, .aload_n 0, 1), (208, .getfield 137, 3), (211, .isub, 1), (212, .iconst 4, 1),
  (213, .if_icmp .le 8, 3), (216, .bipush 26, 2), (218, .goto 5, 3), (221, .bipush 20, 2), (223, .putfield 152, 3), (226, .goto 42, 3),
  (229, .aload_n 0, 1), (230, .aload_n 0, 1), (231, .getfield 19, 3), (234, .aload_n 0, 1), (235, .getfield 140, 3), (238, .iaload, 1),
  (239, .invokestatic 159, 3), (242, .putfield 152, 3), (245, .aload_n 0, 1), (246, .aload_n 0, 1), (247, .getfield 19, 3), (250, .aload_n 0, 1),
  (251, .getfield 140, 3), (254, .iaload, 1), (255, .putfield 149, 3), (258, .aload_n 0, 1), (259, .dup, 1), (260, .getfield 140, 3),
  (263, .iconst 1, 1), (264, .iadd, 1), (265, .putfield 140, 3), (268, .return_, 1)])
set_option maxRecDepth 100000 in
theorem K_Mo_reads : mOk M_Mo_reads := by decide +kernel
def M_Mo_isByte : zM := ("WindBridesModel", ⟨"WindBridesModel", "isByte", "(III)Z"⟩, prog_14_method_35_code, 4, (some .boolean), [
  (0, .iload_n 1, 1), (1, .aload_n 0, 1), (2, .getfield 128, 3), (5, .if_icmp .ge 21, 3), (8, .aload_n 0, 1), (9, .getfield 19, 3),
  (12, .iload_n 1, 1), (13, .iaload, 1), (14, .iload_n 2, 1), (15, .iload_n 3, 1), (16, .invokestatic 67, 3), (19, .ifCond .eq 7, 3),
  (22, .iconst 1, 1), (23, .goto 4, 3), (26, .iconst 0, 1), (27, .ireturn, 1)])
set_option maxRecDepth 100000 in
theorem K_Mo_isByte : mOk M_Mo_isByte := by decide +kernel
def M_Mo_wordHere : zM := ("WindBridesModel", ⟨"WindBridesModel", "wordHere", "()I"⟩, prog_14_method_37_code, 2, (some .int), [
  (0, .iconst 0, 1), (1, .istore_n 1, 1), (2, .iload_n 1, 1), (3, .bipush 18, 2), (5, .if_icmp .ge 26, 3), (8, .aload_n 0, 1),
  (9, .iload_n 1, 1), (10, .aload_n 0, 1), (11, .getfield 140, 3), (14, .aload_n 0, 1), (15, .getfield 137, 3), (18, .isub, 1),
  (19, .invokevirtual 143, 3), (22, .ifCond .ne 9, 3), (25, .iinc 1 1, 3), (28, .goto (-26), 3), (31, .iload_n 1, 1), (32, .bipush 18, 2),
  (34, .if_icmp .ge 7, 3), (37, .iload_n 1, 1), (38, .goto 5, 3), (41, .bipush 26, 2), (43, .ireturn, 1)])
set_option maxRecDepth 100000 in
theorem K_Mo_wordHere : mOk M_Mo_wordHere := by decide +kernel
def M_Mo_isName : zM := ("WindBridesModel", ⟨"WindBridesModel", "isName", "(II)Z"⟩, prog_14_method_36_code, 5, (some .boolean), [
  (0, .iload_n 2, 1), (1, .bipush 6, 2), (3, .if_icmp .gt 26, 3), (6, .iload_n 2, 1), (7, .bipush 6, 2), (9, .if_icmp .eq 16, 3),
  (12, .getstatic 134, 3), (15, .bipush 6, 2), (17, .iload_n 1, 1), (18, .imul, 1), (19, .iload_n 2, 1), (20, .iadd, 1),
  (21, .iaload, 1), (22, .ifCond .ne 7, 3), (25, .iconst 1, 1), (26, .goto 4, 3), (29, .iconst 0, 1), (30, .istore_n 3, 1),
  (31, .iconst 0, 1), (32, .istore 4, 2), (34, .iload 4, 2), (36, .iload_n 2, 1), (37, .if_icmp .ge 45, 3), (40, .iload_n 3, 1),
  (41, .ifCond .eq 41, 3), (44, .getstatic 134, 3), (47, .bipush 6, 2), (49, .iload_n 1, 1), (50, .imul, 1), (51, .iload 4, 2),
  (53, .iadd, 1), (54, .iaload, 1), (55, .aload_n 0, 1), (56, .getfield 19, 3), (59, .aload_n 0, 1), (60, .getfield 137, 3),
  (63, .iload 4, 2), (65, .iadd, 1), (66, .iaload, 1), (67, .if_icmp .ne 7, 3), (70, .iconst 1, 1), (71, .goto 4, 3),
  (74, .iconst 0, 1), (75, .istore_n 3, 1), (76, .iinc 4 1, 3), (79, .goto (-45), 3), (82, .iload_n 3, 1), (83, .ireturn, 1)])
set_option maxRecDepth 100000 in
theorem K_Mo_isName : mOk M_Mo_isName := by decide +kernel
def M_Mo_signOf : zM := ("WindBridesModel", ⟨"WindBridesModel", "signOf", "(I)I"⟩, prog_14_method_38_code, 1, (some .int), [
  (0, .iload_n 0, 1), (1, .lookupswitch 71 #[(40, 62), (41, 65), (59, 68), (60, 59), (61, 59), (62, 59)], 59), (60, .bipush 21, 2), (62, .ireturn, 1), (63, .bipush 22, 2), (65, .ireturn, 1),
  (66, .bipush 23, 2), (68, .ireturn, 1), (69, .bipush 24, 2), (71, .ireturn, 1), (72, .bipush 26, 2), (74, .ireturn, 1)])
set_option maxRecDepth 100000 in
theorem K_Mo_signOf : mOk M_Mo_signOf := by decide +kernel
def M_Mo_ruleHere : zM := ("WindBridesModel", ⟨"WindBridesModel", "ruleHere", "()V"⟩, prog_14_method_46_code, 2, none, [
  (0, .bipush 86, 2), (2, .iconst 4, 1), (3, .aload_n 0, 1), (4, .getfield 9, 3), (7, .bipush 7, 2), (9, .iaload, 1),
  (10, .imul, 1), (11, .iadd, 1), (12, .istore_n 1, 1), (13, .aload_n 0, 1), (14, .aload_n 0, 1), (15, .getfield 152, 3),
  (18, .iconst 5, 1), (19, .if_icmp .gt 15, 3), (22, .aload_n 0, 1), (23, .getfield 9, 3), (26, .bipush 7, 2), (28, .iaload, 1),
  (29, .bipush 8, 2), (31, .if_icmp .ne 7, 3), (34, .iconst 1, 1), (35, .goto 4, 3), (38, .iconst 0, 1), (39, .putfield 162, 3),
  (42, .aload_n 0, 1), (43, .getfield 162, 3), (46, .ifCond .eq 4, 3), (49, .return_, 1), (50, .aload_n 0, 1), (51, .getfield 9, 3),
  (54, .iload_n 1, 1), (55, .aload_n 0, 1), (56, .getfield 152, 3), (59, .iastore, 1), (60, .aload_n 0, 1), (61, .getfield 9, 3),
  (64, .iload_n 1, 1), (65, .iconst 2, 1), (66, .iadd, 1), (67, .aload_n 0, 1), (68, .getfield 169, 3), (71, .iastore, 1),
  (72, .aload_n 0, 1), (73, .invokevirtual 166, 3), (76, .aload_n 0, 1), (77, .bipush 14, 2), (79, .invokevirtual 172, 3), (82, .ifCond .eq 7, 3),
  (85, .aload_n 0, 1), (86, .invokevirtual 178, 3), (89, .aload_n 0, 1), (90, .getfield 9, 3), (93, .iload_n 1, 1), (94, .iconst 3, 1),
  (95, .iadd, 1), (96, .aload_n 0, 1), (97, .getfield 169, 3), (100, .iastore, 1), (101, .aload_n 0, 1), (102, .getfield 9, 3),
  (105, .iload_n 1, 1), (106, .iconst 1, 1), (107, .iadd, 1), (108, .aload_n 0, 1), (109, .getfield 152, 3), (112, .bipush 6, 2),
  (114, .isub, 1), (115, .iastore, 1), (116, .aload_n 0, 1), (117, .aload_n 0, 1), (118, .getfield 162, 3), (121, .ifCond .ne 17, 3),
  (124, .aload_n 0, 1), (125, .getfield 152, 3), (128, .bipush 6, 2), (130, .bipush 8, 2), (132, .invokestatic 67, 3), (135, .ifCond .ne 7, 3),
  (138, .iconst 1, 1), (139, .goto 4, 3), (142, .iconst 0, 1), (143, .putfield 162, 3), (146, .aload_n 0, 1), (147, .getfield 162, 3),
  (150, .ifCond .ne 36, 3), (153, .aload_n 0, 1), (154, .invokevirtual 166, 3), (157, .aload_n 0, 1), (158, .aload_n 0, 1), (159, .bipush 24, 2),
  (161, .invokevirtual 172, 3), (164, .ifCond .ne 7, 3), (167, .iconst 1, 1), (168, .goto 4, 3), (171, .iconst 0, 1), (172, .putfield 162, 3),
  (175, .aload_n 0, 1), (176, .getfield 9, 3), (179, .bipush 7, 2), (181, .dup2, 1), (182, .iaload, 1), (183, .iconst 1, 1),
  (184, .iadd, 1), (185, .iastore, 1), (186, .return_, 1)])
set_option maxRecDepth 100000 in
theorem K_Mo_ruleHere : mOk M_Mo_ruleHere := by decide +kernel
def M_Mo_passes : zM := ("WindBridesModel", ⟨"WindBridesModel", "passes", "(I)Z"⟩, prog_14_method_40_code, 2, (some .boolean), [
  (0, .aload_n 0, 1), (1, .getfield 162, 3), (4, .ifCond .ne 11, 3), (7, .aload_n 0, 1), (8, .getfield 152, 3), (11, .iload_n 1, 1),
  (12, .if_icmp .eq 5, 3), (15, .iconst 0, 1), (16, .ireturn, 1), (17, .aload_n 0, 1), (18, .invokevirtual 166, 3), (21, .iconst 1, 1),
  (22, .ireturn, 1)])
set_option maxRecDepth 100000 in
theorem K_Mo_passes : mOk M_Mo_passes := by decide +kernel
def M_Mo_condition : zM := ("WindBridesModel", ⟨"WindBridesModel", "condition", "()V"⟩, prog_14_method_45_code, 1, none, [
  (0, .aload_n 0, 1), (1, .invokevirtual 191, 3), (4, .aload_n 0, 1), (5, .bipush 15, 2), (7, .invokevirtual 172, 3), (10, .ifCond .eq 16, 3),
  (13, .aload_n 0, 1), (14, .invokevirtual 191, 3), (17, .aload_n 0, 1), (18, .bipush 15, 2), (20, .invokevirtual 184, 3), (23, .goto (-19), 3),
  (26, .return_, 1)])
set_option maxRecDepth 100000 in
theorem K_Mo_condition : mOk M_Mo_condition := by decide +kernel
def M_Mo_all : zM := ("WindBridesModel", ⟨"WindBridesModel", "all", "()V"⟩, prog_14_method_44_code, 1, none, [
  (0, .aload_n 0, 1), (1, .invokevirtual 188, 3), (4, .aload_n 0, 1), (5, .bipush 16, 2), (7, .invokevirtual 172, 3), (10, .ifCond .eq 16, 3),
  (13, .aload_n 0, 1), (14, .invokevirtual 188, 3), (17, .aload_n 0, 1), (18, .bipush 16, 2), (20, .invokevirtual 184, 3), (23, .goto (-19), 3),
  (26, .return_, 1)])
set_option maxRecDepth 100000 in
theorem K_Mo_all : mOk M_Mo_all := by decide +kernel
def M_Mo_one : zM := ("WindBridesModel", ⟨"WindBridesModel", "one", "()V"⟩, prog_14_method_43_code, 5, none, [
  (0, .iconst 0, 1), (1, .istore_n 1, 1), (2, .aload_n 0, 1), (3, .bipush 17, 2), (5, .invokevirtual 172, 3), (8, .ifCond .eq 9, 3),
  (11, .iinc 1 1, 3), (14, .goto (-12), 3), (17, .aload_n 0, 1), (18, .getfield 152, 3), (21, .bipush 22, 2), (23, .if_icmp .ne 72, 3),
  (26, .aload_n 0, 1), (27, .getfield 175, 3), (30, .iconst 3, 1), (31, .if_icmp .ge 64, 3), (34, .aload_n 0, 1), (35, .bipush 22, 2),
  (37, .invokevirtual 172, 3), (40, .ifCond .eq 55, 3), (43, .aload_n 0, 1), (44, .dup, 1), (45, .getfield 175, 3), (48, .iconst 1, 1),
  (49, .iadd, 1), (50, .putfield 175, 3), (53, .aload_n 0, 1), (54, .invokevirtual 178, 3), (57, .aload_n 0, 1), (58, .aload_n 0, 1),
  (59, .getfield 162, 3), (62, .ifCond .ne 12, 3), (65, .aload_n 0, 1), (66, .bipush 23, 2), (68, .invokevirtual 172, 3), (71, .ifCond .ne 7, 3),
  (74, .iconst 1, 1), (75, .goto 4, 3), (78, .iconst 0, 1), (79, .putfield 162, 3), (82, .aload_n 0, 1), (83, .dup, 1),
  (84, .getfield 175, 3), (87, .iconst 1, 1), (88, .isub, 1), (89, .putfield 175, 3), (92, .goto 67, 3), (95, .aload_n 0, 1),
  (96, .invokevirtual 181, 3), (99, .istore_n 2, 1), (100, .aload_n 0, 1), (101, .getfield 149, 3), (104, .istore_n 3, 1), (105, .aload_n 0, 1),
  (106, .aload_n 0, 1), (107, .getfield 162, 3), (110, .ifCond .ne 12, 3), (113, .aload_n 0, 1), (114, .bipush 21, 2), (116, .invokevirtual 172, 3),
  (119, .ifCond .ne 7, 3), (122, .iconst 1, 1), (123, .goto 4, 3), (126, .iconst 0, 1), (127, .putfield 162, 3), (130, .aload_n 0, 1),
  (131, .invokevirtual 181, 3), (134, .istore 4, 2), (136, .aload_n 0, 1), (137, .getfield 162, 3), (140, .ifCond .ne 19, 3), (143, .aload_n 0, 1),
  (144, .iload_n 3, 1), (145, .invokevirtual 184, 3), (148, .aload_n 0, 1), (149, .iload_n 2, 1), (150, .invokevirtual 184, 3), (153, .aload_n 0, 1),
  (154, .iload 4, 2), (156, .invokevirtual 184, 3), (159, .iconst 0, 1), (160, .istore_n 2, 1), (161, .iload_n 2, 1), (162, .iload_n 1, 1),
  (163, .if_icmp .ge 22, 3), (166, .aload_n 0, 1), (167, .getfield 162, 3), (170, .ifCond .ne 15, 3), (173, .aload_n 0, 1), (174, .bipush 17, 2),
  (176, .invokevirtual 184, 3), (179, .iinc 2 1, 3), (182, .goto (-21), 3), (185, .return_, 1)])
set_option maxRecDepth 100000 in
theorem K_Mo_one : mOk M_Mo_one := by decide +kernel
def M_Mo_side : zM := ("WindBridesModel", ⟨"WindBridesModel", "side", "()I"⟩, prog_14_method_42_code, 2, (some .int), [
  (0, .aload_n 0, 1), (1, .getfield 152, 3), (4, .bipush 20, 2), (6, .if_icmp .ne 10, 3), (9, .aload_n 0, 1), (10, .getfield 149, 3),
  (13, .goto 10, 3), (16, .bipush 8, 2), (18, .aload_n 0, 1), (19, .getfield 152, 3), (22, .isub, 1), (23, .istore_n 1, 1),
  (24, .aload_n 0, 1), (25, .aload_n 0, 1), (26, .getfield 162, 3), (29, .ifCond .ne 26, 3), (32, .aload_n 0, 1), (33, .getfield 152, 3),
  (36, .bipush 20, 2), (38, .if_icmp .eq 21, 3), (41, .aload_n 0, 1), (42, .getfield 152, 3), (45, .bipush 9, 2), (47, .bipush 13, 2),
  (49, .invokestatic 67, 3), (52, .ifCond .ne 7, 3), (55, .iconst 1, 1), (56, .goto 4, 3), (59, .iconst 0, 1), (60, .putfield 162, 3),
  (63, .aload_n 0, 1), (64, .getfield 162, 3), (67, .ifCond .ne 7, 3), (70, .aload_n 0, 1), (71, .invokevirtual 166, 3), (74, .iload_n 1, 1),
  (75, .ireturn, 1)])
set_option maxRecDepth 100000 in
theorem K_Mo_side : mOk M_Mo_side := by decide +kernel
def M_Mo_step : zM := ("WindBridesModel", ⟨"WindBridesModel", "step", "(I)V"⟩, prog_14_method_41_code, 2, none, [
  (0, .aload_n 0, 1), (1, .getfield 9, 3), (4, .bipush 118, 2), (6, .aload_n 0, 1), (7, .getfield 169, 3), (10, .iadd, 1),
  (11, .iload_n 1, 1), (12, .iastore, 1), (13, .aload_n 0, 1), (14, .dup, 1), (15, .getfield 169, 3), (18, .iconst 1, 1),
  (19, .iadd, 1), (20, .putfield 169, 3), (23, .return_, 1)])
set_option maxRecDepth 100000 in
theorem K_Mo_step : mOk M_Mo_step := by decide +kernel
def M_Mo_putsBack : zM := ("WindBridesModel", ⟨"WindBridesModel", "putsBack", "()V"⟩, prog_14_method_5_code, 1, none, [
  (0, .aload_n 0, 1), (1, .getfield 16, 3), (4, .aload_n 0, 1), (5, .getfield 9, 3), (8, .invokestatic 63, 3), (11, .return_, 1)])
set_option maxRecDepth 100000 in
theorem K_Mo_putsBack : mOk M_Mo_putsBack := by decide +kernel
def M_Mo_month : zM := ("WindBridesModel", ⟨"WindBridesModel", "month", "()I"⟩, prog_14_method_56_code, 1, (some .int), [
  (0, .aload_n 0, 1), (1, .invokevirtual 124, 3), (4, .ifCond .eq 8, 3), (7, .bipush (-4), 2), (9, .goto 8, 3), (12, .aload_n 0, 1),
  (13, .iconst (-1), 1), (14, .invokevirtual 227, 3), (17, .ireturn, 1)])
set_option maxRecDepth 100000 in
theorem K_Mo_month : mOk M_Mo_month := by decide +kernel
def M_Mo_goes : zM := ("WindBridesModel", ⟨"WindBridesModel", "goes", "(I)I"⟩, prog_14_method_55_code, 6, (some .int), [
  (0, .iconst 0, 1), (1, .istore_n 2, 1), (2, .iconst 0, 1), (3, .istore_n 3, 1), (4, .aload_n 0, 1), (5, .iconst 0, 1),
  (6, .putfield 218, 3), (9, .iconst 0, 1), (10, .istore 4, 2), (12, .iload 4, 2), (14, .aload_n 0, 1), (15, .getfield 9, 3),
  (18, .iconst 3, 1), (19, .iaload, 1), (20, .if_icmp .ge 152, 3), (23, .iload 4, 2), (25, .iload_n 1, 1), (26, .if_icmp .ne 6, 3),
  (29, .goto 137, 3), (32, .aload_n 0, 1), (33, .iload 4, 2), (35, .invokevirtual 221, 3), (38, .ifCond .eq 9, 3), (41, .aload_n 0, 1),
  (42, .iload 4, 2), (44, .invokevirtual 224, 3), (47, .aload_n 0, 1), (48, .iload 4, 2), (50, .iconst 3, 1), (51, .invokevirtual 75, 3),
  (54, .istore 5, 2), (56, .aload_n 0, 1), (57, .iload 4, 2), (59, .invokevirtual 221, 3), (62, .ifCond .ne 66, 3), (65, .iload_n 2, 1),
  (66, .iload 5, 2), (68, .ishr, 1), (69, .iconst 1, 1), (70, .iand, 1), (71, .ifCond .ne 57, 3), (74, .iload_n 2, 1),
  (75, .iconst 1, 1), (76, .iload 5, 2), (78, .ishl, 1), (79, .ior, 1), (80, .istore_n 2, 1), (81, .aload_n 0, 1),
  (82, .dup, 1), (83, .getfield 218, 3), (86, .iconst 1, 1), (87, .iload 4, 2), (89, .ishl, 1), (90, .ior, 1),
  (91, .putfield 218, 3), (94, .iload_n 3, 1), (95, .aload_n 0, 1), (96, .iload 4, 2), (98, .iload 5, 2), (100, .aload_n 0, 1),
  (101, .getfield 9, 3), (104, .iconst 1, 1), (105, .iaload, 1), (106, .invokevirtual 120, 3), (109, .iadd, 1), (110, .istore_n 3, 1),
  (111, .aload_n 0, 1), (112, .iload 4, 2), (114, .iconst 4, 1), (115, .aload_n 0, 1), (116, .iload 4, 2), (118, .iconst 2, 1),
  (119, .invokevirtual 75, 3), (122, .invokevirtual 88, 3), (125, .goto 41, 3), (128, .iload 5, 2), (130, .ifCond .lt 36, 3), (133, .aload_n 0, 1),
  (134, .iload 4, 2), (136, .iconst 4, 1), (137, .aload_n 0, 1), (138, .iload 4, 2), (140, .iconst 4, 1), (141, .invokevirtual 75, 3),
  (144, .iconst 1, 1), (145, .isub, 1), (146, .invokevirtual 88, 3), (149, .aload_n 0, 1), (150, .iload 4, 2), (152, .iconst 4, 1),
  (153, .invokevirtual 75, 3), (156, .ifCond .ne 10, 3), (159, .aload_n 0, 1), (160, .iload 4, 2), (162, .iconst (-1), 1), (163, .invokevirtual 116, 3),
  (166, .iinc 4 1, 3), (169, .goto (-157), 3), (172, .aload_n 0, 1), (173, .getfield 9, 3), (176, .iconst 4, 1), (177, .dup2, 1),
  (178, .iaload, 1), (179, .iload_n 3, 1), (180, .iadd, 1), (181, .iastore, 1), (182, .aload_n 0, 1), (183, .getfield 9, 3),
  (186, .iconst 1, 1), (187, .dup2, 1), (188, .iaload, 1), (189, .iconst 1, 1), (190, .iadd, 1), (191, .iastore, 1),
  (192, .iload_n 3, 1), (193, .ireturn, 1)])
set_option maxRecDepth 100000 in
theorem K_Mo_goes : mOk M_Mo_goes := by decide +kernel
def M_Mo_isCalmFor : zM := ("WindBridesModel", ⟨"WindBridesModel", "isCalmFor", "(I)Z"⟩, prog_14_method_52_code, 2, (some .boolean), [
  (0, .aload_n 0, 1), (1, .iload_n 1, 1), (2, .iconst 3, 1), (3, .invokevirtual 75, 3), (6, .ifCond .lt 22, 3), (9, .aload_n 0, 1),
  (10, .aload_n 0, 1), (11, .iload_n 1, 1), (12, .iconst 3, 1), (13, .invokevirtual 75, 3), (16, .aload_n 0, 1), (17, .getfield 9, 3),
  (20, .iconst 1, 1), (21, .iaload, 1), (22, .invokevirtual 112, 3), (25, .ifCond .ne 7, 3), (28, .iconst 1, 1), (29, .goto 4, 3),
  (32, .iconst 0, 1), (33, .ireturn, 1)])
set_option maxRecDepth 100000 in
theorem K_Mo_isCalmFor : mOk M_Mo_isCalmFor := by decide +kernel
def M_Mo_acts : zM := ("WindBridesModel", ⟨"WindBridesModel", "acts", "(I)V"⟩, prog_14_method_54_code, 3, none, [
  (0, .aload_n 0, 1), (1, .iload_n 1, 1), (2, .invokevirtual 96, 3), (5, .istore_n 2, 1), (6, .iload_n 2, 1), (7, .iconst 1, 1),
  (8, .if_icmp .ne 11, 3), (11, .aload_n 0, 1), (12, .iload_n 1, 1), (13, .invokevirtual 215, 3), (16, .goto 14, 3), (19, .iload_n 2, 1),
  (20, .iconst 2, 1), (21, .if_icmp .ne 9, 3), (24, .aload_n 0, 1), (25, .iload_n 1, 1), (26, .iconst (-1), 1), (27, .invokevirtual 116, 3),
  (30, .return_, 1)])
set_option maxRecDepth 100000 in
theorem K_Mo_acts : mOk M_Mo_acts := by decide +kernel
def M_Mo_turns : zM := ("WindBridesModel", ⟨"WindBridesModel", "turns", "(I)V"⟩, prog_14_method_53_code, 5, none, [
  (0, .iconst (-1), 1), (1, .istore_n 2, 1), (2, .iconst 0, 1), (3, .istore_n 3, 1), (4, .iload_n 3, 1), (5, .aload_n 0, 1),
  (6, .getfield 9, 3), (9, .iconst 2, 1), (10, .iaload, 1), (11, .if_icmp .ge 76, 3), (14, .aload_n 0, 1), (15, .iload_n 3, 1),
  (16, .aload_n 0, 1), (17, .getfield 9, 3), (20, .iconst 1, 1), (21, .iaload, 1), (22, .invokevirtual 112, 3), (25, .ifCond .eq 15, 3),
  (28, .aload_n 0, 1), (29, .iload_n 3, 1), (30, .invokevirtual 109, 3), (33, .ifCond .ne 7, 3), (36, .iconst 1, 1), (37, .goto 4, 3),
  (40, .iconst 0, 1), (41, .istore 4, 2), (43, .iload 4, 2), (45, .ifCond .eq 36, 3), (48, .iload_n 2, 1), (49, .ifCond .lt 30, 3),
  (52, .aload_n 0, 1), (53, .iload_n 1, 1), (54, .iload_n 3, 1), (55, .aload_n 0, 1), (56, .getfield 9, 3), (59, .iconst 1, 1),
  (60, .iaload, 1), (61, .invokevirtual 120, 3), (64, .aload_n 0, 1), (65, .iload_n 1, 1), (66, .iload_n 2, 1), (67, .aload_n 0, 1),
  (68, .getfield 9, 3), (71, .iconst 1, 1), (72, .iaload, 1), (73, .invokevirtual 120, 3), (76, .if_icmp .le 5, 3), (79, .iload_n 3, 1),
  (80, .istore_n 2, 1), (81, .iinc 3 1, 3), (84, .goto (-80), 3), (87, .iload_n 2, 1), (88, .ifCond .lt 9, 3), (91, .aload_n 0, 1),
  (92, .iload_n 1, 1), (93, .iload_n 2, 1), (94, .invokevirtual 116, 3), (97, .return_, 1)])
set_option maxRecDepth 100000 in
theorem K_Mo_turns : mOk M_Mo_turns := by decide +kernel
def M_Mo_on : zM := ("WindBridesModel", ⟨"WindBridesModel", "on", "(I)I"⟩, prog_14_method_58_code, 2, (some .int), [
  (0, .iload_n 1, 1), (1, .iconst 0, 1), (2, .bipush 16, 2), (4, .invokestatic 67, 3), (7, .ifCond .ne 5, 3), (10, .iconst (-1), 1),
  (11, .ireturn, 1), (12, .aload_n 0, 1), (13, .invokevirtual 194, 3), (16, .aload_n 0, 1), (17, .iload_n 1, 1), (18, .invokevirtual 230, 3),
  (21, .ireturn, 1)])
set_option maxRecDepth 100000 in
theorem K_Mo_on : mOk M_Mo_on := by decide +kernel
def M_Mo_restOf : zM := ("WindBridesModel", ⟨"WindBridesModel", "restOf", "(I)I"⟩, prog_14_method_57_code, 4, (some .int), [
  (0, .iconst 0, 1), (1, .istore_n 2, 1), (2, .iconst 0, 1), (3, .istore_n 3, 1), (4, .iload_n 3, 1), (5, .iload_n 1, 1),
  (6, .if_icmp .ge 24, 3), (9, .aload_n 0, 1), (10, .invokevirtual 124, 3), (13, .ifCond .ne 17, 3), (16, .iload_n 2, 1), (17, .aload_n 0, 1),
  (18, .iconst (-1), 1), (19, .invokevirtual 227, 3), (22, .iadd, 1), (23, .istore_n 2, 1), (24, .iinc 3 1, 3), (27, .goto (-23), 3),
  (30, .aload_n 0, 1), (31, .invokevirtual 200, 3), (34, .iload_n 2, 1), (35, .ireturn, 1)])
set_option maxRecDepth 100000 in
theorem K_Mo_restOf : mOk M_Mo_restOf := by decide +kernel
def M_Mo_courted : zM := ("WindBridesModel", ⟨"WindBridesModel", "courted", "(I)I"⟩, prog_14_method_59_code, 3, (some .int), [
  (0, .aload_n 0, 1), (1, .iload_n 1, 1), (2, .invokevirtual 92, 3), (5, .ifCond .ne 5, 3), (8, .iconst (-1), 1), (9, .ireturn, 1),
  (10, .aload_n 0, 1), (11, .invokevirtual 194, 3), (14, .iconst 0, 1), (15, .istore_n 2, 1), (16, .aload_n 0, 1), (17, .invokevirtual 124, 3),
  (20, .ifCond .ne 23, 3), (23, .aload_n 0, 1), (24, .iconst (-1), 1), (25, .invokevirtual 227, 3), (28, .pop, 1), (29, .iload_n 2, 1),
  (30, .aload_n 0, 1), (31, .getfield 218, 3), (34, .iload_n 1, 1), (35, .ishr, 1), (36, .iconst 1, 1), (37, .iand, 1),
  (38, .iadd, 1), (39, .istore_n 2, 1), (40, .goto (-24), 3), (43, .aload_n 0, 1), (44, .invokevirtual 200, 3), (47, .iload_n 2, 1),
  (48, .ireturn, 1)])
set_option maxRecDepth 100000 in
theorem K_Mo_courted : mOk M_Mo_courted := by decide +kernel
def M_Mo_breaks : zM := ("WindBridesModel", ⟨"WindBridesModel", "breaks", "(I)I"⟩, prog_14_method_60_code, 4, (some .int), [
  (0, .aload_n 0, 1), (1, .iload_n 1, 1), (2, .invokevirtual 92, 3), (5, .ifCond .ne 5, 3), (8, .iconst (-1), 1), (9, .ireturn, 1),
  (10, .aload_n 0, 1), (11, .iload_n 1, 1), (12, .iconst 3, 1), (13, .invokevirtual 75, 3), (16, .istore_n 2, 1), (17, .aload_n 0, 1),
  (18, .invokevirtual 194, 3), (21, .bipush (-3), 2), (23, .istore_n 3, 1), (24, .iload_n 2, 1), (25, .ifCond .lt 47, 3), (28, .iload_n 3, 1),
  (29, .ifCond .ge 43, 3), (32, .aload_n 0, 1), (33, .invokevirtual 124, 3), (36, .ifCond .ne 36, 3), (39, .aload_n 0, 1), (40, .iconst (-1), 1),
  (41, .invokevirtual 227, 3), (44, .pop, 1), (45, .aload_n 0, 1), (46, .iload_n 1, 1), (47, .iconst 3, 1), (48, .invokevirtual 75, 3),
  (51, .iload_n 2, 1), (52, .if_icmp .ne 8, 3), (55, .bipush (-3), 2), (57, .goto 11, 3), (60, .aload_n 0, 1), (61, .getfield 9, 3),
  (64, .iconst 1, 1), (65, .iaload, 1), (66, .iconst 1, 1), (67, .isub, 1), (68, .istore_n 3, 1), (69, .goto (-45), 3),
  (72, .aload_n 0, 1), (73, .invokevirtual 200, 3), (76, .iload_n 3, 1), (77, .ireturn, 1)])
set_option maxRecDepth 100000 in
theorem K_Mo_breaks : mOk M_Mo_breaks := by decide +kernel
def M_Mo_windFor : zM := ("WindBridesModel", ⟨"WindBridesModel", "windFor", "(I)I"⟩, prog_14_method_61_code, 6, (some .int), [
  (0, .aload_n 0, 1), (1, .iload_n 1, 1), (2, .invokevirtual 92, 3), (5, .ifCond .ne 5, 3), (8, .iconst (-1), 1), (9, .ireturn, 1),
  (10, .aload_n 0, 1), (11, .invokevirtual 194, 3), (14, .iconst (-1), 1), (15, .istore_n 2, 1), (16, .iconst (-1), 1), (17, .istore_n 3, 1),
  (18, .iconst 0, 1), (19, .istore 4, 2), (21, .iload 4, 2), (23, .aload_n 0, 1), (24, .getfield 9, 3), (27, .iconst 2, 1),
  (28, .iaload, 1), (29, .if_icmp .gt 80, 3), (32, .aload_n 0, 1), (33, .iload_n 1, 1), (34, .iload 4, 2), (36, .aload_n 0, 1),
  (37, .getfield 9, 3), (40, .iconst 2, 1), (41, .iaload, 1), (42, .if_icmp .ge 8, 3), (45, .iload 4, 2), (47, .goto 4, 3),
  (50, .iconst (-1), 1), (51, .invokevirtual 116, 3), (54, .aload_n 0, 1), (55, .bipush 16, 2), (57, .invokevirtual 230, 3), (60, .istore 5, 2),
  (62, .iload 5, 2), (64, .iload_n 3, 1), (65, .if_icmp .le 23, 3), (68, .iload 4, 2), (70, .aload_n 0, 1), (71, .getfield 9, 3),
  (74, .iconst 2, 1), (75, .iaload, 1), (76, .if_icmp .ge 8, 3), (79, .iload 4, 2), (81, .goto 8, 3), (84, .iconst (-1), 1),
  (85, .goto 4, 3), (88, .iload_n 2, 1), (89, .istore_n 2, 1), (90, .iload 5, 2), (92, .iload_n 3, 1), (93, .if_icmp .le 8, 3),
  (96, .iload 5, 2), (98, .goto 4, 3), (101, .iload_n 3, 1), (102, .istore_n 3, 1), (103, .iinc 4 1, 3), (106, .goto (-85), 3),
  (109, .iload_n 2, 1), (110, .invokestatic 100, 3), (113, .ireturn, 1)])
set_option maxRecDepth 100000 in
theorem K_Mo_windFor : mOk M_Mo_windFor := by decide +kernel
def M_Mo_dowryFor : zM := ("WindBridesModel", ⟨"WindBridesModel", "dowryFor", "(I)I"⟩, prog_14_method_62_code, 6, (some .int), [
  (0, .aload_n 0, 1), (1, .iload_n 1, 1), (2, .invokevirtual 92, 3), (5, .ifCond .ne 5, 3), (8, .iconst (-1), 1), (9, .ireturn, 1),
  (10, .aload_n 0, 1), (11, .invokevirtual 194, 3), (14, .iconst 0, 1), (15, .istore_n 2, 1), (16, .iconst (-1), 1), (17, .istore_n 3, 1),
  (18, .iconst 1, 1), (19, .istore 4, 2), (21, .iload 4, 2), (23, .bipush 10, 2), (25, .if_icmp .ge 59, 3), (28, .aload_n 0, 1),
  (29, .iload_n 1, 1), (30, .iconst 2, 1), (31, .iload 4, 2), (33, .invokevirtual 88, 3), (36, .aload_n 0, 1), (37, .iload_n 1, 1),
  (38, .iconst 4, 1), (39, .iload 4, 2), (41, .invokevirtual 88, 3), (44, .aload_n 0, 1), (45, .bipush 16, 2), (47, .invokevirtual 230, 3),
  (50, .istore 5, 2), (52, .iload 5, 2), (54, .iload_n 3, 1), (55, .if_icmp .le 8, 3), (58, .iload 4, 2), (60, .goto 4, 3),
  (63, .iload_n 2, 1), (64, .istore_n 2, 1), (65, .iload 5, 2), (67, .iload_n 3, 1), (68, .if_icmp .le 8, 3), (71, .iload 5, 2),
  (73, .goto 4, 3), (76, .iload_n 3, 1), (77, .istore_n 3, 1), (78, .iinc 4 1, 3), (81, .goto (-60), 3), (84, .iload_n 2, 1),
  (85, .ireturn, 1)])
set_option maxRecDepth 100000 in
theorem K_Mo_dowryFor : mOk M_Mo_dowryFor := by decide +kernel
def M_Mo_leave : zM := ("WindBridesModel", ⟨"WindBridesModel", "leave", "()I"⟩, prog_14_method_67_code, 4, (some .int), [
  (0, .iconst 0, 1), (1, .istore_n 1, 1), (2, .iconst 0, 1), (3, .istore_n 2, 1), (4, .iload_n 2, 1), (5, .aload_n 0, 1),
  (6, .getfield 9, 3), (9, .iconst 3, 1), (10, .iaload, 1), (11, .if_icmp .ge 44, 3), (14, .iconst 0, 1), (15, .istore_n 3, 1),
  (16, .iload_n 3, 1), (17, .aload_n 0, 1), (18, .getfield 9, 3), (21, .iconst 2, 1), (22, .iaload, 1), (23, .if_icmp .ge 26, 3),
  (26, .iload_n 1, 1), (27, .aload_n 0, 1), (28, .iload_n 2, 1), (29, .iload_n 3, 1), (30, .invokevirtual 242, 3), (33, .ifCond .eq 7, 3),
  (36, .iconst 1, 1), (37, .goto 4, 3), (40, .iconst 0, 1), (41, .iadd, 1), (42, .istore_n 1, 1), (43, .iinc 3 1, 3),
  (46, .goto (-30), 3), (49, .iinc 2 1, 3), (52, .goto (-48), 3), (55, .iload_n 1, 1), (56, .ireturn, 1)])
set_option maxRecDepth 100000 in
theorem K_Mo_leave : mOk M_Mo_leave := by decide +kernel
def M_Mo_wouldLeave : zM := ("WindBridesModel", ⟨"WindBridesModel", "wouldLeave", "(II)Z"⟩, prog_14_method_66_code, 5, (some .boolean), [
  (0, .aload_n 0, 1), (1, .iload_n 1, 1), (2, .iconst 3, 1), (3, .invokevirtual 75, 3), (6, .iload_n 2, 1), (7, .if_icmp .eq 22, 3),
  (10, .aload_n 0, 1), (11, .iload_n 1, 1), (12, .iload_n 2, 1), (13, .aload_n 0, 1), (14, .iload_n 1, 1), (15, .iconst 3, 1),
  (16, .invokevirtual 75, 3), (19, .invokevirtual 236, 3), (22, .ifCond .eq 7, 3), (25, .iconst 1, 1), (26, .goto 4, 3), (29, .iconst 0, 1),
  (30, .istore_n 3, 1), (31, .iconst 0, 1), (32, .istore 4, 2), (34, .iload 4, 2), (36, .aload_n 0, 1), (37, .getfield 9, 3),
  (40, .iconst 3, 1), (41, .iaload, 1), (42, .if_icmp .ge 41, 3), (45, .iload_n 3, 1), (46, .ifCond .eq 37, 3), (49, .aload_n 0, 1),
  (50, .iload 4, 2), (52, .iconst 3, 1), (53, .invokevirtual 75, 3), (56, .iload_n 2, 1), (57, .if_icmp .ne 14, 3), (60, .aload_n 0, 1),
  (61, .iload_n 2, 1), (62, .iload_n 1, 1), (63, .iload 4, 2), (65, .invokevirtual 239, 3), (68, .ifCond .eq 7, 3), (71, .iconst 1, 1),
  (72, .goto 4, 3), (75, .iconst 0, 1), (76, .istore_n 3, 1), (77, .iinc 4 1, 3), (80, .goto (-46), 3), (83, .iload_n 3, 1),
  (84, .ireturn, 1)])
set_option maxRecDepth 100000 in
theorem K_Mo_wouldLeave : mOk M_Mo_wouldLeave := by decide +kernel
def M_Mo_likes : zM := ("WindBridesModel", ⟨"WindBridesModel", "likes", "(III)Z"⟩, prog_14_method_64_code, 6, (some .boolean), [
  (0, .iload_n 3, 1), (1, .ifCond .ge 5, 3), (4, .iconst 1, 1), (5, .ireturn, 1), (6, .aload_n 0, 1), (7, .iload_n 1, 1),
  (8, .iload_n 2, 1), (9, .aload_n 0, 1), (10, .invokevirtual 233, 3), (13, .invokevirtual 120, 3), (16, .istore 4, 2), (18, .aload_n 0, 1),
  (19, .iload_n 1, 1), (20, .iload_n 3, 1), (21, .aload_n 0, 1), (22, .invokevirtual 233, 3), (25, .invokevirtual 120, 3), (28, .istore 5, 2),
  (30, .iload 4, 2), (32, .iload 5, 2), (34, .if_icmp .gt 15, 3), (37, .iload 4, 2), (39, .iload 5, 2), (41, .if_icmp .ne 12, 3),
  (44, .iload_n 2, 1), (45, .iload_n 3, 1), (46, .if_icmp .ge 7, 3), (49, .iconst 1, 1), (50, .goto 4, 3), (53, .iconst 0, 1),
  (54, .ireturn, 1)])
set_option maxRecDepth 100000 in
theorem K_Mo_likes : mOk M_Mo_likes := by decide +kernel
def M_Mo_monthNow : zM := ("WindBridesModel", ⟨"WindBridesModel", "monthNow", "()I"⟩, prog_14_method_63_code, 1, (some .int), [
  (0, .aload_n 0, 1), (1, .getfield 9, 3), (4, .iconst 1, 1), (5, .iaload, 1), (6, .bipush 15, 2), (8, .if_icmp .le 8, 3),
  (11, .bipush 15, 2), (13, .goto 9, 3), (16, .aload_n 0, 1), (17, .getfield 9, 3), (20, .iconst 1, 1), (21, .iaload, 1),
  (22, .ireturn, 1)])
set_option maxRecDepth 100000 in
theorem K_Mo_monthNow : mOk M_Mo_monthNow := by decide +kernel
def M_Mo_isLiked : zM := ("WindBridesModel", ⟨"WindBridesModel", "isLiked", "(III)Z"⟩, prog_14_method_65_code, 6, (some .boolean), [
  (0, .aload_n 0, 1), (1, .iload_n 2, 1), (2, .iload_n 1, 1), (3, .invokevirtual 81, 3), (6, .istore 4, 2), (8, .aload_n 0, 1),
  (9, .iload_n 3, 1), (10, .iload_n 1, 1), (11, .invokevirtual 81, 3), (14, .istore 5, 2), (16, .iload 4, 2), (18, .iload 5, 2),
  (20, .if_icmp .lt 15, 3), (23, .iload 4, 2), (25, .iload 5, 2), (27, .if_icmp .ne 12, 3), (30, .iload_n 2, 1), (31, .iload_n 3, 1),
  (32, .if_icmp .ge 7, 3), (35, .iconst 1, 1), (36, .goto 4, 3), (39, .iconst 0, 1), (40, .ireturn, 1)])
set_option maxRecDepth 100000 in
theorem K_Mo_isLiked : mOk M_Mo_isLiked := by decide +kernel
def M_Mo_first : zM := ("WindBridesModel", ⟨"WindBridesModel", "first", "()I"⟩, prog_14_method_68_code, 3, (some .int), [
  (0, .iconst 0, 1), (1, .istore_n 1, 1), (2, .iload_n 1, 1), (3, .aload_n 0, 1), (4, .getfield 9, 3), (7, .iconst 3, 1),
  (8, .iaload, 1), (9, .if_icmp .ge 43, 3), (12, .iconst 0, 1), (13, .istore_n 2, 1), (14, .iload_n 2, 1), (15, .aload_n 0, 1),
  (16, .getfield 9, 3), (19, .iconst 2, 1), (20, .iaload, 1), (21, .if_icmp .ge 25, 3), (24, .aload_n 0, 1), (25, .iload_n 1, 1),
  (26, .iload_n 2, 1), (27, .invokevirtual 242, 3), (30, .ifCond .eq 10, 3), (33, .bipush 10, 2), (35, .iload_n 1, 1), (36, .imul, 1),
  (37, .iload_n 2, 1), (38, .iadd, 1), (39, .ireturn, 1), (40, .iinc 2 1, 3), (43, .goto (-29), 3), (46, .iinc 1 1, 3),
  (49, .goto (-47), 3), (52, .bipush (-3), 2), (54, .ireturn, 1)])
set_option maxRecDepth 100000 in
theorem K_Mo_first : mOk M_Mo_first := by decide +kernel
def M_Mo_kept : zM := ("WindBridesModel", ⟨"WindBridesModel", "kept", "(I)I"⟩, prog_14_method_71_code, 3, (some .int), [
  (0, .aload_n 0, 1), (1, .iload_n 1, 1), (2, .invokevirtual 92, 3), (5, .ifCond .ne 5, 3), (8, .iconst (-1), 1), (9, .ireturn, 1),
  (10, .iconst 0, 1), (11, .istore_n 2, 1), (12, .iload_n 2, 1), (13, .bipush 6, 2), (15, .if_icmp .ge 23, 3), (18, .aload_n 0, 1),
  (19, .getfield 26, 3), (22, .iload_n 2, 1), (23, .iconst (-1), 1), (24, .iastore, 1), (25, .aload_n 0, 1), (26, .getfield 29, 3),
  (29, .iload_n 2, 1), (30, .iconst 0, 1), (31, .iastore, 1), (32, .iinc 2 1, 3), (35, .goto (-23), 3), (38, .iconst 1, 1),
  (39, .istore_n 2, 1), (40, .iload_n 2, 1), (41, .ifCond .eq 11, 3), (44, .aload_n 0, 1), (45, .invokevirtual 248, 3), (48, .istore_n 2, 1),
  (49, .goto (-9), 3), (52, .aload_n 0, 1), (53, .getfield 26, 3), (56, .iload_n 1, 1), (57, .iaload, 1), (58, .invokestatic 100, 3),
  (61, .ireturn, 1)])
set_option maxRecDepth 100000 in
theorem K_Mo_kept : mOk M_Mo_kept := by decide +kernel
def M_Mo_asks : zM := ("WindBridesModel", ⟨"WindBridesModel", "asks", "()Z"⟩, prog_14_method_70_code, 5, (some .boolean), [
  (0, .iconst 0, 1), (1, .istore_n 1, 1), (2, .iload_n 1, 1), (3, .aload_n 0, 1), (4, .getfield 9, 3), (7, .iconst 3, 1),
  (8, .iaload, 1), (9, .if_icmp .ge 118, 3), (12, .aload_n 0, 1), (13, .getfield 26, 3), (16, .iload_n 1, 1), (17, .iaload, 1),
  (18, .ifCond .ge 11, 3), (21, .aload_n 0, 1), (22, .iload_n 1, 1), (23, .invokevirtual 245, 3), (26, .goto 4, 3), (29, .iconst (-1), 1),
  (30, .istore_n 2, 1), (31, .iload_n 2, 1), (32, .ifCond .lt 89, 3), (35, .aload_n 0, 1), (36, .getfield 29, 3), (39, .iload_n 1, 1),
  (40, .dup2, 1), (41, .iaload, 1), (42, .iconst 1, 1), (43, .iload_n 2, 1), (44, .ishl, 1), (45, .ior, 1),
  (46, .iastore, 1), (47, .iconst (-1), 1), (48, .istore_n 3, 1), (49, .iconst 0, 1), (50, .istore 4, 2), (52, .iload 4, 2),
  (54, .aload_n 0, 1), (55, .getfield 9, 3), (58, .iconst 3, 1), (59, .iaload, 1), (60, .if_icmp .ge 27, 3), (63, .aload_n 0, 1),
  (64, .getfield 26, 3), (67, .iload 4, 2), (69, .iaload, 1), (70, .iload_n 2, 1), (71, .if_icmp .ne 8, 3), (74, .iload 4, 2),
  (76, .goto 4, 3), (79, .iload_n 3, 1), (80, .istore_n 3, 1), (81, .iinc 4 1, 3), (84, .goto (-32), 3), (87, .iload_n 3, 1),
  (88, .ifCond .lt 13, 3), (91, .aload_n 0, 1), (92, .iload_n 2, 1), (93, .iload_n 1, 1), (94, .iload_n 3, 1), (95, .invokevirtual 239, 3),
  (98, .ifCond .eq 21, 3), (101, .aload_n 0, 1), (102, .getfield 26, 3), (105, .iload_n 1, 1), (106, .iload_n 2, 1), (107, .iastore, 1),
  (108, .iload_n 3, 1), (109, .ifCond .lt 10, 3), (112, .aload_n 0, 1), (113, .getfield 26, 3), (116, .iload_n 3, 1), (117, .iconst (-1), 1),
  (118, .iastore, 1), (119, .iconst 1, 1), (120, .ireturn, 1), (121, .iinc 1 1, 3), (124, .goto (-122), 3), (127, .iconst 0, 1),
  (128, .ireturn, 1)])
set_option maxRecDepth 100000 in
theorem K_Mo_asks : mOk M_Mo_asks := by decide +kernel
def M_Mo_nextFor : zM := ("WindBridesModel", ⟨"WindBridesModel", "nextFor", "(I)I"⟩, prog_14_method_69_code, 4, (some .int), [
  (0, .iconst (-1), 1), (1, .istore_n 2, 1), (2, .iconst 0, 1), (3, .istore_n 3, 1), (4, .iload_n 3, 1), (5, .aload_n 0, 1),
  (6, .getfield 9, 3), (9, .iconst 2, 1), (10, .iaload, 1), (11, .if_icmp .ge 38, 3), (14, .aload_n 0, 1), (15, .getfield 29, 3),
  (18, .iload_n 1, 1), (19, .iaload, 1), (20, .iload_n 3, 1), (21, .ishr, 1), (22, .iconst 1, 1), (23, .iand, 1),
  (24, .ifCond .ne 17, 3), (27, .aload_n 0, 1), (28, .iload_n 1, 1), (29, .iload_n 3, 1), (30, .iload_n 2, 1), (31, .invokevirtual 236, 3),
  (34, .ifCond .eq 7, 3), (37, .iload_n 3, 1), (38, .goto 4, 3), (41, .iload_n 2, 1), (42, .istore_n 2, 1), (43, .iinc 3 1, 3),
  (46, .goto (-42), 3), (49, .iload_n 2, 1), (50, .ireturn, 1)])
set_option maxRecDepth 100000 in
theorem K_Mo_nextFor : mOk M_Mo_nextFor := by decide +kernel
def M_Mo_ring : zM := ("WindBridesModel", ⟨"WindBridesModel", "ring", "(I)I"⟩, prog_14_method_73_code, 7, (some .int), [
  (0, .aload_n 0, 1), (1, .iload_n 1, 1), (2, .invokevirtual 92, 3), (5, .ifCond .ne 5, 3), (8, .iconst (-1), 1), (9, .ireturn, 1),
  (10, .iconst 1, 1), (11, .iload_n 1, 1), (12, .ishl, 1), (13, .istore_n 2, 1), (14, .iconst 1, 1), (15, .istore_n 3, 1),
  (16, .iload_n 3, 1), (17, .bipush 6, 2), (19, .if_icmp .gt 101, 3), (22, .iconst 0, 1), (23, .istore 4, 2), (25, .iconst 0, 1),
  (26, .istore 5, 2), (28, .iload 5, 2), (30, .aload_n 0, 1), (31, .getfield 9, 3), (34, .iconst 3, 1), (35, .iaload, 1),
  (36, .if_icmp .ge 63, 3), (39, .iconst 0, 1), (40, .istore 6, 2), (42, .iload 6, 2), (44, .aload_n 0, 1), (45, .getfield 9, 3),
  (48, .iconst 3, 1), (49, .iaload, 1), (50, .if_icmp .ge 43, 3), (53, .iload 4, 2), (55, .iload_n 2, 1), (56, .iload 5, 2),
  (58, .ishr, 1), (59, .iconst 1, 1), (60, .iand, 1), (61, .iconst 1, 1), (62, .if_icmp .ne 21, 3), (65, .aload_n 0, 1),
  (66, .iload 5, 2), (68, .iload 6, 2), (70, .invokevirtual 251, 3), (73, .ifCond .eq 10, 3), (76, .iconst 1, 1), (77, .iload 6, 2),
  (79, .ishl, 1), (80, .goto 4, 3), (83, .iconst 0, 1), (84, .ior, 1), (85, .istore 4, 2), (87, .iinc 6 1, 3),
  (90, .goto (-48), 3), (93, .iinc 5 1, 3), (96, .goto (-68), 3), (99, .iload 4, 2), (101, .iload_n 1, 1), (102, .ishr, 1),
  (103, .iconst 1, 1), (104, .iand, 1), (105, .iconst 1, 1), (106, .if_icmp .ne 5, 3), (109, .iload_n 3, 1), (110, .ireturn, 1),
  (111, .iload 4, 2), (113, .istore_n 2, 1), (114, .iinc 3 1, 3), (117, .goto (-101), 3), (120, .bipush (-3), 2), (122, .ireturn, 1)])
set_option maxRecDepth 100000 in
theorem K_Mo_ring : mOk M_Mo_ring := by decide +kernel
def M_Mo_wouldSwap : zM := ("WindBridesModel", ⟨"WindBridesModel", "wouldSwap", "(II)Z"⟩, prog_14_method_72_code, 4, (some .boolean), [
  (0, .iload_n 1, 1), (1, .iload_n 2, 1), (2, .if_icmp .eq 25, 3), (5, .aload_n 0, 1), (6, .iload_n 1, 1), (7, .iconst 3, 1),
  (8, .invokevirtual 75, 3), (11, .ifCond .lt 16, 3), (14, .aload_n 0, 1), (15, .iload_n 2, 1), (16, .iconst 3, 1), (17, .invokevirtual 75, 3),
  (20, .ifCond .lt 7, 3), (23, .iconst 1, 1), (24, .goto 4, 3), (27, .iconst 0, 1), (28, .istore_n 3, 1), (29, .iload_n 3, 1),
  (30, .ifCond .eq 40, 3), (33, .aload_n 0, 1), (34, .iload_n 1, 1), (35, .aload_n 0, 1), (36, .iload_n 2, 1), (37, .iconst 3, 1),
  (38, .invokevirtual 75, 3), (41, .aload_n 0, 1), (42, .invokevirtual 233, 3), (45, .invokevirtual 120, 3), (48, .aload_n 0, 1), (49, .iload_n 1, 1),
  (50, .aload_n 0, 1), (51, .iload_n 1, 1), (52, .iconst 3, 1), (53, .invokevirtual 75, 3), (56, .aload_n 0, 1), (57, .invokevirtual 233, 3),
  (60, .invokevirtual 120, 3), (63, .if_icmp .le 7, 3), (66, .iconst 1, 1), (67, .goto 4, 3), (70, .iconst 0, 1), (71, .ireturn, 1)])
set_option maxRecDepth 100000 in
theorem K_Mo_wouldSwap : mOk M_Mo_wouldSwap := by decide +kernel
def M_Mo_best : zM := ("WindBridesModel", ⟨"WindBridesModel", "best", "(I)I"⟩, prog_14_method_79_code, 2, (some .int), [
  (0, .iload_n 1, 1), (1, .iconst 0, 1), (2, .iconst 4, 1), (3, .invokestatic 67, 3), (6, .ifCond .ne 5, 3), (9, .iconst (-1), 1),
  (10, .ireturn, 1), (11, .aload_n 0, 1), (12, .iload_n 1, 1), (13, .invokevirtual 281, 3), (16, .aload_n 0, 1), (17, .getfield 269, 3),
  (20, .ireturn, 1)])
set_option maxRecDepth 100000 in
theorem K_Mo_best : mOk M_Mo_best := by decide +kernel
def M_Mo_findBest : zM := ("WindBridesModel", ⟨"WindBridesModel", "findBest", "(I)V"⟩, prog_14_method_78_code, 6, none, [
  (0, .aload_n 0, 1), (1, .iload_n 1, 1), (2, .invokevirtual 254, 3), (5, .istore_n 2, 1), (6, .aload_n 0, 1), (7, .iload_n 1, 1),
  (8, .invokevirtual 266, 3), (11, .istore_n 3, 1), (12, .aload_n 0, 1), (13, .invokevirtual 194, 3), (16, .aload_n 0, 1), (17, .iconst (-1), 1),
  (18, .putfield 269, 3), (21, .iconst 0, 1), (22, .istore 4, 2), (24, .iload 4, 2), (26, .iload_n 3, 1), (27, .if_icmp .ge 101, 3),
  (30, .aload_n 0, 1), (31, .iload 4, 2), (33, .iload_n 2, 1), (34, .invokevirtual 272, 3), (37, .istore 5, 2), (39, .aload_n 0, 1),
  (40, .iload 5, 2), (42, .aload_n 0, 1), (43, .getfield 269, 3), (46, .if_icmp .le 7, 3), (49, .iconst 1, 1), (50, .goto 25, 3),
  (53, .iload 5, 2), (55, .aload_n 0, 1), (56, .getfield 269, 3), (59, .if_icmp .ne 12, 3), (62, .aload_n 0, 1), (63, .getfield 275, 3),
  (66, .iconst 1, 1), (67, .iadd, 1), (68, .goto 7, 3), (71, .aload_n 0, 1), (72, .getfield 275, 3), (75, .putfield 275, 3),
  (78, .aload_n 0, 1), (79, .iload 5, 2), (81, .aload_n 0, 1), (82, .getfield 269, 3), (85, .if_icmp .le 8, 3), (88, .iload 4, 2),
  (90, .goto 7, 3), (93, .aload_n 0, 1), (94, .getfield 278, 3), (97, .putfield 278, 3), (100, .aload_n 0, 1), (101, .iload 5, 2),
  (103, .aload_n 0, 1), (104, .getfield 269, 3), (107, .if_icmp .le 8, 3), (110, .iload 5, 2), (112, .goto 7, 3), (115, .aload_n 0, 1),
  (116, .getfield 269, 3), (119, .putfield 269, 3), (122, .iinc 4 1, 3), (125, .goto (-101), 3), (128, .return_, 1)])
set_option maxRecDepth 100000 in
theorem K_Mo_findBest : mOk M_Mo_findBest := by decide +kernel
def M_Mo_monthsOf : zM := ("WindBridesModel", ⟨"WindBridesModel", "monthsOf", "(I)I"⟩, prog_14_method_74_code, 3, (some .int), [
  (0, .aload_n 0, 1), (1, .getfield 9, 3), (4, .iconst 0, 1), (5, .iaload, 1), (6, .aload_n 0, 1), (7, .getfield 9, 3),
  (10, .iconst 1, 1), (11, .iaload, 1), (12, .isub, 1), (13, .istore_n 2, 1), (14, .iload_n 2, 1), (15, .iload_n 1, 1),
  (16, .if_icmp .ge 7, 3), (19, .iload_n 2, 1), (20, .goto 4, 3), (23, .iload_n 1, 1), (24, .ireturn, 1)])
set_option maxRecDepth 100000 in
theorem K_Mo_monthsOf : mOk M_Mo_monthsOf := by decide +kernel
def M_Mo_plansOf : zM := ("WindBridesModel", ⟨"WindBridesModel", "plansOf", "(I)I"⟩, prog_14_method_75_code, 4, (some .int), [
  (0, .iconst 1, 1), (1, .istore_n 2, 1), (2, .iconst 0, 1), (3, .istore_n 3, 1), (4, .iload_n 3, 1), (5, .aload_n 0, 1),
  (6, .iload_n 1, 1), (7, .invokevirtual 254, 3), (10, .if_icmp .ge 20, 3), (13, .iload_n 2, 1), (14, .aload_n 0, 1), (15, .getfield 9, 3),
  (18, .iconst 3, 1), (19, .iaload, 1), (20, .iconst 1, 1), (21, .iadd, 1), (22, .imul, 1), (23, .istore_n 2, 1),
  (24, .iinc 3 1, 3), (27, .goto (-23), 3), (30, .iload_n 2, 1), (31, .ireturn, 1)])
set_option maxRecDepth 100000 in
theorem K_Mo_plansOf : mOk M_Mo_plansOf := by decide +kernel
def M_Mo_worthOf : zM := ("WindBridesModel", ⟨"WindBridesModel", "worthOf", "(II)I"⟩, prog_14_method_77_code, 6, (some .int), [
  (0, .aload_n 0, 1), (1, .getfield 9, 3), (4, .iconst 3, 1), (5, .iaload, 1), (6, .iconst 1, 1), (7, .iadd, 1),
  (8, .istore_n 3, 1), (9, .iconst 0, 1), (10, .istore 4, 2), (12, .iconst 0, 1), (13, .istore 5, 2), (15, .iload 5, 2),
  (17, .iload_n 2, 1), (18, .if_icmp .ge 28, 3), (21, .iload 4, 2), (23, .aload_n 0, 1), (24, .iload_n 1, 1), (25, .iload_n 3, 1),
  (26, .iload 5, 2), (28, .iload_n 2, 1), (29, .invokestatic 257, 3), (32, .iconst 1, 1), (33, .isub, 1), (34, .invokevirtual 227, 3),
  (37, .iadd, 1), (38, .istore 4, 2), (40, .iinc 5 1, 3), (43, .goto (-28), 3), (46, .aload_n 0, 1), (47, .aload_n 0, 1),
  (48, .invokevirtual 260, 3), (51, .putfield 263, 3), (54, .aload_n 0, 1), (55, .invokevirtual 200, 3), (58, .iload 4, 2), (60, .ireturn, 1)])
set_option maxRecDepth 100000 in
theorem K_Mo_worthOf : mOk M_Mo_worthOf := by decide +kernel
def M_Mo_digit : zM := ("WindBridesModel", ⟨"WindBridesModel", "digit", "(IIII)I"⟩, prog_14_method_76_code, 6, (some .int), [
  (0, .iload_n 0, 1), (1, .istore 4, 2), (3, .iload_n 2, 1), (4, .iconst 1, 1), (5, .iadd, 1), (6, .istore 5, 2),
  (8, .iload 5, 2), (10, .iload_n 3, 1), (11, .if_icmp .ge 15, 3), (14, .iload 4, 2), (16, .iload_n 1, 1), (17, .idiv, 1),
  (18, .istore 4, 2), (20, .iinc 5 1, 3), (23, .goto (-15), 3), (26, .iload 4, 2), (28, .iload_n 1, 1), (29, .irem, 1),
  (30, .ireturn, 1)])
set_option maxRecDepth 100000 in
theorem K_Mo_digit : mOk M_Mo_digit := by decide +kernel
def M_Mo_promised : zM := ("WindBridesModel", ⟨"WindBridesModel", "promised", "()I"⟩, prog_14_method_26_code, 3, (some .int), [
  (0, .iconst 0, 1), (1, .istore_n 1, 1), (2, .iconst 0, 1), (3, .istore_n 2, 1), (4, .iload_n 2, 1), (5, .aload_n 0, 1),
  (6, .getfield 9, 3), (9, .iconst 3, 1), (10, .iaload, 1), (11, .if_icmp .ge 28, 3), (14, .iload_n 1, 1), (15, .aload_n 0, 1),
  (16, .iload_n 2, 1), (17, .iconst 3, 1), (18, .invokevirtual 75, 3), (21, .ifCond .lt 9, 3), (24, .iconst 1, 1), (25, .iload_n 2, 1),
  (26, .ishl, 1), (27, .goto 4, 3), (30, .iconst 0, 1), (31, .ior, 1), (32, .istore_n 1, 1), (33, .iinc 2 1, 3),
  (36, .goto (-32), 3), (39, .iload_n 1, 1), (40, .ireturn, 1)])
set_option maxRecDepth 100000 in
theorem K_Mo_promised : mOk M_Mo_promised := by decide +kernel
def M_Mo_ith : zM := ("WindBridesModel", ⟨"WindBridesModel", "ith", "(II)I"⟩, prog_14_method_80_code, 4, (some .int), [
  (0, .iload_n 1, 1), (1, .iconst 0, 1), (2, .iconst 4, 1), (3, .invokestatic 67, 3), (6, .ifCond .eq 12, 3), (9, .iload_n 2, 1),
  (10, .iconst 0, 1), (11, .iconst 3, 1), (12, .invokestatic 67, 3), (15, .ifCond .ne 5, 3), (18, .iconst (-1), 1), (19, .ireturn, 1),
  (20, .aload_n 0, 1), (21, .iload_n 1, 1), (22, .invokevirtual 254, 3), (25, .istore_n 3, 1), (26, .iload_n 2, 1), (27, .iload_n 3, 1),
  (28, .if_icmp .lt 6, 3), (31, .bipush (-3), 2), (33, .ireturn, 1), (34, .aload_n 0, 1), (35, .iload_n 1, 1), (36, .invokevirtual 281, 3),
  (39, .aload_n 0, 1), (40, .getfield 278, 3), (43, .aload_n 0, 1), (44, .getfield 9, 3), (47, .iconst 3, 1), (48, .iaload, 1),
  (49, .iconst 1, 1), (50, .iadd, 1), (51, .iload_n 2, 1), (52, .iload_n 3, 1), (53, .invokestatic 257, 3), (56, .ireturn, 1)])
set_option maxRecDepth 100000 in
theorem K_Mo_ith : mOk M_Mo_ith := by decide +kernel
def M_Mo_ways : zM := ("WindBridesModel", ⟨"WindBridesModel", "ways", "(I)I"⟩, prog_14_method_81_code, 2, (some .int), [
  (0, .iload_n 1, 1), (1, .iconst 0, 1), (2, .iconst 4, 1), (3, .invokestatic 67, 3), (6, .ifCond .ne 5, 3), (9, .iconst (-1), 1),
  (10, .ireturn, 1), (11, .aload_n 0, 1), (12, .iload_n 1, 1), (13, .invokevirtual 281, 3), (16, .aload_n 0, 1), (17, .getfield 275, 3),
  (20, .ireturn, 1)])
set_option maxRecDepth 100000 in
theorem K_Mo_ways : mOk M_Mo_ways := by decide +kernel
def M_Mo_bound : zM := ("WindBridesModel", ⟨"WindBridesModel", "bound", "(II)I"⟩, prog_14_method_84_code, 9, (some .int), [
  (0, .iload_n 1, 1), (1, .iconst 0, 1), (2, .iconst 4, 1), (3, .invokestatic 67, 3), (6, .ifCond .eq 11, 3), (9, .aload_n 0, 1),
  (10, .iload_n 2, 1), (11, .invokevirtual 284, 3), (14, .ifCond .ne 5, 3), (17, .iconst (-1), 1), (18, .ireturn, 1), (19, .aload_n 0, 1),
  (20, .iload_n 1, 1), (21, .invokevirtual 254, 3), (24, .istore_n 3, 1), (25, .aload_n 0, 1), (26, .iload_n 1, 1), (27, .invokevirtual 266, 3),
  (30, .istore 4, 2), (32, .aload_n 0, 1), (33, .invokevirtual 194, 3), (36, .bipush (-3), 2), (38, .istore 5, 2), (40, .iconst 0, 1),
  (41, .istore 6, 2), (43, .iload 6, 2), (45, .iload 4, 2), (47, .if_icmp .ge 70, 3), (50, .aload_n 0, 1), (51, .iload 6, 2),
  (53, .iload_n 3, 1), (54, .invokevirtual 272, 3), (57, .pop, 1), (58, .aload_n 0, 1), (59, .iload 6, 2), (61, .iload_n 3, 1),
  (62, .invokevirtual 287, 3), (65, .istore 7, 2), (67, .iload_n 2, 1), (68, .aload_n 0, 1), (69, .getfield 263, 3), (72, .iconst (-1), 1),
  (73, .ixor, 1), (74, .iand, 1), (75, .ifCond .ne 19, 3), (78, .iload 5, 2), (80, .ifCond .lt 10, 3), (83, .iload 7, 2),
  (85, .iload 5, 2), (87, .if_icmp .ge 7, 3), (90, .iconst 1, 1), (91, .goto 4, 3), (94, .iconst 0, 1), (95, .istore 8, 2),
  (97, .iload 8, 2), (99, .ifCond .eq 8, 3), (102, .iload 7, 2), (104, .goto 5, 3), (107, .iload 5, 2), (109, .istore 5, 2),
  (111, .iinc 6 1, 3), (114, .goto (-71), 3), (117, .iload 5, 2), (119, .ireturn, 1)])
set_option maxRecDepth 100000 in
theorem K_Mo_bound : mOk M_Mo_bound := by decide +kernel
def M_Mo_isSet : zM := ("WindBridesModel", ⟨"WindBridesModel", "isSet", "(I)Z"⟩, prog_14_method_82_code, 2, (some .boolean), [
  (0, .iload_n 1, 1), (1, .iconst 0, 1), (2, .iconst 1, 1), (3, .aload_n 0, 1), (4, .getfield 9, 3), (7, .iconst 3, 1),
  (8, .iaload, 1), (9, .ishl, 1), (10, .iconst 1, 1), (11, .isub, 1), (12, .invokestatic 67, 3), (15, .ireturn, 1)])
set_option maxRecDepth 100000 in
theorem K_Mo_isSet : mOk M_Mo_isSet := by decide +kernel
def M_Mo_actsIn : zM := ("WindBridesModel", ⟨"WindBridesModel", "actsIn", "(II)I"⟩, prog_14_method_83_code, 5, (some .int), [
  (0, .iconst 0, 1), (1, .istore_n 3, 1), (2, .iconst 0, 1), (3, .istore 4, 2), (5, .iload 4, 2), (7, .iload_n 2, 1),
  (8, .if_icmp .ge 35, 3), (11, .iload_n 3, 1), (12, .iload_n 1, 1), (13, .aload_n 0, 1), (14, .getfield 9, 3), (17, .iconst 3, 1),
  (18, .iaload, 1), (19, .iconst 1, 1), (20, .iadd, 1), (21, .iload 4, 2), (23, .iload_n 2, 1), (24, .invokestatic 257, 3),
  (27, .ifCond .le 7, 3), (30, .iconst 1, 1), (31, .goto 4, 3), (34, .iconst 0, 1), (35, .iadd, 1), (36, .istore_n 3, 1),
  (37, .iinc 4 1, 3), (40, .goto (-35), 3), (43, .iload_n 3, 1), (44, .ireturn, 1)])
set_option maxRecDepth 100000 in
theorem K_Mo_actsIn : mOk M_Mo_actsIn := by decide +kernel
def M_Mo_bars : zM := ("WindBridesModel", ⟨"WindBridesModel", "bars", "(II)I"⟩, prog_14_method_85_code, 8, (some .int), [
  (0, .iload_n 1, 1), (1, .iconst 0, 1), (2, .iconst 4, 1), (3, .invokestatic 67, 3), (6, .ifCond .eq 11, 3), (9, .aload_n 0, 1),
  (10, .iload_n 2, 1), (11, .invokevirtual 284, 3), (14, .ifCond .ne 5, 3), (17, .iconst (-1), 1), (18, .ireturn, 1), (19, .aload_n 0, 1),
  (20, .iload_n 1, 1), (21, .invokevirtual 254, 3), (24, .istore_n 3, 1), (25, .aload_n 0, 1), (26, .iload_n 1, 1), (27, .invokevirtual 266, 3),
  (30, .istore 4, 2), (32, .aload_n 0, 1), (33, .invokevirtual 194, 3), (36, .iconst 0, 1), (37, .istore 5, 2), (39, .iconst 0, 1),
  (40, .istore 6, 2), (42, .iload 6, 2), (44, .iload 4, 2), (46, .if_icmp .ge 26, 3), (49, .aload_n 0, 1), (50, .iload 6, 2),
  (52, .iload_n 3, 1), (53, .invokevirtual 272, 3), (56, .pop, 1), (57, .iload 5, 2), (59, .aload_n 0, 1), (60, .getfield 263, 3),
  (63, .ior, 1), (64, .istore 5, 2), (66, .iinc 6 1, 3), (69, .goto (-27), 3), (72, .iload_n 2, 1), (73, .iload 5, 2),
  (75, .iconst (-1), 1), (76, .ixor, 1), (77, .iand, 1), (78, .istore 6, 2), (80, .iconst 0, 1), (81, .istore 7, 2),
  (83, .iload 7, 2), (85, .aload_n 0, 1), (86, .getfield 9, 3), (89, .iconst 3, 1), (90, .iaload, 1), (91, .if_icmp .ge 23, 3),
  (94, .iload 6, 2), (96, .iload 7, 2), (98, .ishr, 1), (99, .iconst 1, 1), (100, .iand, 1), (101, .iconst 1, 1),
  (102, .if_icmp .ne 6, 3), (105, .iload 7, 2), (107, .ireturn, 1), (108, .iinc 7 1, 3), (111, .goto (-28), 3), (114, .bipush (-3), 2),
  (116, .ireturn, 1)])
set_option maxRecDepth 100000 in
theorem K_Mo_bars : mOk M_Mo_bars := by decide +kernel
def M_Mo_game : zM := ("WindBridesModel", ⟨"WindBridesModel", "game", "(I)I"⟩, prog_14_method_87_code, 2, (some .int), [
  (0, .iload_n 1, 1), (1, .iconst 1, 1), (2, .iconst 4, 1), (3, .invokestatic 67, 3), (6, .ifCond .eq 12, 3), (9, .aload_n 0, 1),
  (10, .iload_n 1, 1), (11, .iconst 1, 1), (12, .invokevirtual 290, 3), (15, .goto 4, 3), (18, .iconst (-1), 1), (19, .ireturn, 1)])
set_option maxRecDepth 100000 in
theorem K_Mo_game : mOk M_Mo_game := by decide +kernel
def M_Mo_gameOn : zM := ("WindBridesModel", ⟨"WindBridesModel", "gameOn", "(IZ)I"⟩, prog_14_method_86_code, 8, (some .int), [
  (0, .iload_n 1, 1), (1, .ifCond .eq 10, 3), (4, .aload_n 0, 1), (5, .invokevirtual 124, 3), (8, .ifCond .eq 5, 3), (11, .iconst 0, 1),
  (12, .ireturn, 1), (13, .iconst 0, 1), (14, .istore_n 3, 1), (15, .iload_n 3, 1), (16, .sipush 618, 3), (19, .if_icmp .ge 29, 3),
  (22, .aload_n 0, 1), (23, .getfield 32, 3), (26, .sipush 618, 3), (29, .iload_n 1, 1), (30, .iconst 1, 1), (31, .isub, 1),
  (32, .imul, 1), (33, .iload_n 3, 1), (34, .iadd, 1), (35, .aload_n 0, 1), (36, .getfield 9, 3), (39, .iload_n 3, 1),
  (40, .iaload, 1), (41, .iastore, 1), (42, .iinc 3 1, 3), (45, .goto (-30), 3), (48, .iconst 0, 1), (49, .istore_n 3, 1),
  (50, .aload_n 0, 1), (51, .getfield 9, 3), (54, .iconst 3, 1), (55, .iaload, 1), (56, .istore 4, 2), (58, .iconst 0, 1),
  (59, .istore 5, 2), (61, .iload 5, 2), (63, .iload 4, 2), (65, .if_icmp .gt 122, 3), (68, .aload_n 0, 1), (69, .iload 5, 2),
  (71, .iconst 1, 1), (72, .isub, 1), (73, .invokevirtual 227, 3), (76, .istore 6, 2), (78, .iload 6, 2), (80, .aload_n 0, 1),
  (81, .iload_n 1, 1), (82, .iconst 1, 1), (83, .isub, 1), (84, .iload_n 2, 1), (85, .ifCond .ne 7, 3), (88, .iconst 1, 1),
  (89, .goto 4, 3), (92, .iconst 0, 1), (93, .invokevirtual 290, 3), (96, .iadd, 1), (97, .istore 6, 2), (99, .iconst 0, 1),
  (100, .istore 7, 2), (102, .iload 7, 2), (104, .sipush 618, 3), (107, .if_icmp .ge 31, 3), (110, .aload_n 0, 1), (111, .getfield 9, 3),
  (114, .iload 7, 2), (116, .aload_n 0, 1), (117, .getfield 32, 3), (120, .sipush 618, 3), (123, .iload_n 1, 1), (124, .iconst 1, 1),
  (125, .isub, 1), (126, .imul, 1), (127, .iload 7, 2), (129, .iadd, 1), (130, .iaload, 1), (131, .iastore, 1),
  (132, .iinc 7 1, 3), (135, .goto (-33), 3), (138, .iload 5, 2), (140, .ifCond .eq 22, 3), (143, .iload_n 2, 1), (144, .ifCond .eq 12, 3),
  (147, .iload 6, 2), (149, .iload_n 3, 1), (150, .if_icmp .le 16, 3), (153, .goto 9, 3), (156, .iload 6, 2), (158, .iload_n 3, 1),
  (159, .if_icmp .ge 7, 3), (162, .iconst 1, 1), (163, .goto 4, 3), (166, .iconst 0, 1), (167, .istore 7, 2), (169, .iload 7, 2),
  (171, .ifCond .eq 8, 3), (174, .iload 6, 2), (176, .goto 4, 3), (179, .iload_n 3, 1), (180, .istore_n 3, 1), (181, .iinc 5 1, 3),
  (184, .goto (-123), 3), (187, .iload_n 3, 1), (188, .ireturn, 1)])
set_option maxRecDepth 100000 in
theorem K_Mo_gameOn : mOk M_Mo_gameOn := by decide +kernel
def M_Mo_play : zM := ("WindBridesModel", ⟨"WindBridesModel", "play", "(I)I"⟩, prog_14_method_88_code, 5, (some .int), [
  (0, .iload_n 1, 1), (1, .iconst 1, 1), (2, .iconst 4, 1), (3, .invokestatic 67, 3), (6, .ifCond .ne 5, 3), (9, .iconst (-1), 1),
  (10, .ireturn, 1), (11, .aload_n 0, 1), (12, .invokevirtual 124, 3), (15, .ifCond .eq 6, 3), (18, .bipush (-3), 2), (20, .ireturn, 1),
  (21, .aload_n 0, 1), (22, .iload_n 1, 1), (23, .iconst 1, 1), (24, .invokevirtual 290, 3), (27, .istore_n 2, 1), (28, .iconst 0, 1),
  (29, .istore_n 3, 1), (30, .iload_n 3, 1), (31, .aload_n 0, 1), (32, .getfield 9, 3), (35, .iconst 3, 1), (36, .iaload, 1),
  (37, .if_icmp .gt 61, 3), (40, .aload_n 0, 1), (41, .getfield 9, 3), (44, .aload_n 0, 1), (45, .getfield 35, 3), (48, .invokestatic 63, 3),
  (51, .aload_n 0, 1), (52, .iload_n 3, 1), (53, .iconst 1, 1), (54, .isub, 1), (55, .invokevirtual 227, 3), (58, .istore 4, 2),
  (60, .iload 4, 2), (62, .aload_n 0, 1), (63, .iload_n 1, 1), (64, .iconst 1, 1), (65, .isub, 1), (66, .iconst 0, 1),
  (67, .invokevirtual 290, 3), (70, .iadd, 1), (71, .istore 4, 2), (73, .aload_n 0, 1), (74, .getfield 35, 3), (77, .aload_n 0, 1),
  (78, .getfield 9, 3), (81, .invokestatic 63, 3), (84, .iload 4, 2), (86, .iload_n 2, 1), (87, .if_icmp .ne 5, 3), (90, .iload_n 3, 1),
  (91, .ireturn, 1), (92, .iinc 3 1, 3), (95, .goto (-65), 3), (98, .bipush (-3), 2), (100, .ireturn, 1)])
set_option maxRecDepth 100000 in
theorem K_Mo_play : mOk M_Mo_play := by decide +kernel
def M_Mo_report : zM := ("WindBridesModel", ⟨"WindBridesModel", "report", "(IIII)I"⟩, prog_14_method_89_code, 6, (some .int), [
  (0, .iload_n 1, 1), (1, .iconst 1, 1), (2, .iconst 5, 1), (3, .invokestatic 67, 3), (6, .ifCond .eq 34, 3), (9, .iload_n 2, 1),
  (10, .iconst 0, 1), (11, .bipush 7, 2), (13, .invokestatic 67, 3), (16, .ifCond .eq 24, 3), (19, .iload_n 3, 1), (20, .iconst 0, 1),
  (21, .bipush 99, 2), (23, .invokestatic 67, 3), (26, .ifCond .eq 14, 3), (29, .iload 4, 2), (31, .iload_n 3, 1), (32, .bipush 99, 2),
  (34, .invokestatic 67, 3), (37, .ifCond .ne 5, 3), (40, .iconst (-1), 1), (41, .ireturn, 1), (42, .aload_n 0, 1), (43, .getfield 9, 3),
  (46, .bipush 6, 2), (48, .iaload, 1), (49, .istore 5, 2), (51, .iload 5, 2), (53, .bipush 6, 2), (55, .if_icmp .ne 6, 3),
  (58, .bipush (-2), 2), (60, .ireturn, 1), (61, .aload_n 0, 1), (62, .getfield 9, 3), (65, .bipush 6, 2), (67, .dup2, 1),
  (68, .iaload, 1), (69, .iconst 1, 1), (70, .iadd, 1), (71, .iastore, 1), (72, .aload_n 0, 1), (73, .getfield 9, 3),
  (76, .bipush 62, 2), (78, .iconst 4, 1), (79, .iload 5, 2), (81, .imul, 1), (82, .iadd, 1), (83, .iload_n 1, 1),
  (84, .iastore, 1), (85, .aload_n 0, 1), (86, .getfield 9, 3), (89, .bipush 62, 2), (91, .iconst 4, 1), (92, .iload 5, 2),
  (94, .imul, 1), (95, .iadd, 1), (96, .iconst 1, 1), (97, .iadd, 1), (98, .iload_n 2, 1), (99, .iastore, 1),
  (100, .aload_n 0, 1), (101, .getfield 9, 3), (104, .bipush 62, 2), (106, .iconst 4, 1), (107, .iload 5, 2), (109, .imul, 1),
  (110, .iadd, 1), (111, .iconst 2, 1), (112, .iadd, 1), (113, .iload_n 3, 1), (114, .iastore, 1), (115, .aload_n 0, 1),
  (116, .getfield 9, 3), (119, .bipush 62, 2), (121, .iconst 4, 1), (122, .iload 5, 2), (124, .imul, 1), (125, .iadd, 1),
  (126, .iconst 3, 1), (127, .iadd, 1), (128, .iload 4, 2), (130, .iastore, 1), (131, .iload 5, 2), (133, .ireturn, 1)])
set_option maxRecDepth 100000 in
theorem K_Mo_report : mOk M_Mo_report := by decide +kernel
def M_Mo_forget : zM := ("WindBridesModel", ⟨"WindBridesModel", "forget", "()I"⟩, prog_14_method_90_code, 1, (some .int), [
  (0, .aload_n 0, 1), (1, .bipush 6, 2), (3, .iconst 0, 1), (4, .invokevirtual 103, 3), (7, .ireturn, 1)])
set_option maxRecDepth 100000 in
theorem K_Mo_forget : mOk M_Mo_forget := by decide +kernel
def M_Mo_span : zM := ("WindBridesModel", ⟨"WindBridesModel", "span", "(I)I"⟩, prog_14_method_93_code, 4, (some .int), [
  (0, .iload_n 1, 1), (1, .iconst 0, 1), (2, .iconst 2, 1), (3, .invokestatic 67, 3), (6, .ifCond .ne 5, 3), (9, .iconst (-1), 1),
  (10, .ireturn, 1), (11, .iload_n 1, 1), (12, .ifCond .le 35, 3), (15, .aload_n 0, 1), (16, .iconst (-1), 1), (17, .invokevirtual 297, 3),
  (20, .istore_n 2, 1), (21, .iload_n 2, 1), (22, .ifCond .ge 8, 3), (25, .bipush (-3), 2), (27, .goto 19, 3), (30, .iload_n 1, 1),
  (31, .iconst 1, 1), (32, .if_icmp .ne 10, 3), (35, .iload_n 2, 1), (36, .bipush 10, 2), (38, .idiv, 1), (39, .goto 7, 3),
  (42, .iload_n 2, 1), (43, .bipush 10, 2), (45, .irem, 1), (46, .ireturn, 1), (47, .iconst 0, 1), (48, .istore_n 2, 1),
  (49, .iconst 0, 1), (50, .istore_n 3, 1), (51, .iload_n 3, 1), (52, .bipush 80, 2), (54, .if_icmp .ge 40, 3), (57, .iload_n 2, 1),
  (58, .iload_n 3, 1), (59, .bipush 10, 2), (61, .irem, 1), (62, .ifCond .le 23, 3), (65, .aload_n 0, 1), (66, .iload_n 3, 1),
  (67, .bipush 10, 2), (69, .idiv, 1), (70, .iload_n 3, 1), (71, .bipush 10, 2), (73, .irem, 1), (74, .iconst (-1), 1),
  (75, .invokevirtual 294, 3), (78, .ifCond .eq 7, 3), (81, .iconst 1, 1), (82, .goto 4, 3), (85, .iconst 0, 1), (86, .iadd, 1),
  (87, .istore_n 2, 1), (88, .iinc 3 1, 3), (91, .goto (-40), 3), (94, .iload_n 2, 1), (95, .ireturn, 1)])
set_option maxRecDepth 100000 in
theorem K_Mo_span : mOk M_Mo_span := by decide +kernel
def M_Mo_strange : zM := ("WindBridesModel", ⟨"WindBridesModel", "strange", "(I)I"⟩, prog_14_method_92_code, 3, (some .int), [
  (0, .iconst 0, 1), (1, .istore_n 2, 1), (2, .iload_n 2, 1), (3, .bipush 80, 2), (5, .if_icmp .ge 34, 3), (8, .iload_n 2, 1),
  (9, .bipush 10, 2), (11, .irem, 1), (12, .ifCond .le 21, 3), (15, .aload_n 0, 1), (16, .iload_n 2, 1), (17, .bipush 10, 2),
  (19, .idiv, 1), (20, .iload_n 2, 1), (21, .bipush 10, 2), (23, .irem, 1), (24, .iload_n 1, 1), (25, .invokevirtual 294, 3),
  (28, .ifCond .eq 5, 3), (31, .iload_n 2, 1), (32, .ireturn, 1), (33, .iinc 2 1, 3), (36, .goto (-34), 3), (39, .iconst (-1), 1),
  (40, .ireturn, 1)])
set_option maxRecDepth 100000 in
theorem K_Mo_strange : mOk M_Mo_strange := by decide +kernel
def M_Mo_fits : zM := ("WindBridesModel", ⟨"WindBridesModel", "fits", "(III)Z"⟩, prog_14_method_91_code, 8, (some .boolean), [
  (0, .iconst 1, 1), (1, .istore 4, 2), (3, .iconst 0, 1), (4, .istore 5, 2), (6, .iload 5, 2), (8, .aload_n 0, 1),
  (9, .getfield 9, 3), (12, .bipush 6, 2), (14, .iaload, 1), (15, .if_icmp .ge 89, 3), (18, .bipush 62, 2), (20, .iconst 4, 1),
  (21, .iload 5, 2), (23, .imul, 1), (24, .iadd, 1), (25, .istore 6, 2), (27, .aload_n 0, 1), (28, .getfield 9, 3),
  (31, .iload 6, 2), (33, .iaload, 1), (34, .aload_n 0, 1), (35, .getfield 9, 3), (38, .iload 6, 2), (40, .iconst 1, 1),
  (41, .iadd, 1), (42, .iaload, 1), (43, .iload_n 1, 1), (44, .invokestatic 78, 3), (47, .iload_n 2, 1), (48, .iconst 3, 1),
  (49, .invokestatic 84, 3), (52, .istore 7, 2), (54, .iload 4, 2), (56, .ifCond .eq 39, 3), (59, .iload 5, 2), (61, .iload_n 3, 1),
  (62, .if_icmp .eq 29, 3), (65, .iload 7, 2), (67, .aload_n 0, 1), (68, .getfield 9, 3), (71, .iload 6, 2), (73, .iconst 2, 1),
  (74, .iadd, 1), (75, .iaload, 1), (76, .aload_n 0, 1), (77, .getfield 9, 3), (80, .iload 6, 2), (82, .iconst 3, 1),
  (83, .iadd, 1), (84, .iaload, 1), (85, .invokestatic 67, 3), (88, .ifCond .eq 7, 3), (91, .iconst 1, 1), (92, .goto 4, 3),
  (95, .iconst 0, 1), (96, .istore 4, 2), (98, .iinc 5 1, 3), (101, .goto (-95), 3), (104, .iload 4, 2), (106, .ireturn, 1)])
set_option maxRecDepth 100000 in
theorem K_Mo_fits : mOk M_Mo_fits := by decide +kernel
def M_Mo_liar : zM := ("WindBridesModel", ⟨"WindBridesModel", "liar", "()I"⟩, prog_14_method_94_code, 2, (some .int), [
  (0, .aload_n 0, 1), (1, .iconst (-1), 1), (2, .invokevirtual 297, 3), (5, .ifCond .lt 6, 3), (8, .bipush (-3), 2), (10, .ireturn, 1),
  (11, .iconst 0, 1), (12, .istore_n 1, 1), (13, .iload_n 1, 1), (14, .aload_n 0, 1), (15, .getfield 9, 3), (18, .bipush 6, 2),
  (20, .iaload, 1), (21, .if_icmp .ge 19, 3), (24, .aload_n 0, 1), (25, .iload_n 1, 1), (26, .invokevirtual 297, 3), (29, .ifCond .lt 5, 3),
  (32, .iload_n 1, 1), (33, .ireturn, 1), (34, .iinc 1 1, 3), (37, .goto (-24), 3), (40, .bipush (-3), 2), (42, .ireturn, 1)])
set_option maxRecDepth 100000 in
theorem K_Mo_liar : mOk M_Mo_liar := by decide +kernel
def M_Mo_seed : zM := ("WindBridesModel", ⟨"WindBridesModel", "seed", "(I)I"⟩, prog_14_method_95_code, 2, (some .int), [
  (0, .aload_n 0, 1), (1, .iconst 5, 1), (2, .iload_n 1, 1), (3, .invokevirtual 103, 3), (6, .ireturn, 1)])
set_option maxRecDepth 100000 in
theorem K_Mo_seed : mOk M_Mo_seed := by decide +kernel
def M_Mo_lot : zM := ("WindBridesModel", ⟨"WindBridesModel", "lot", "()I"⟩, prog_14_method_97_code, 1, (some .int), [
  (0, .aload_n 0, 1), (1, .invokevirtual 124, 3), (4, .ifCond .eq 8, 3), (7, .bipush (-4), 2), (9, .goto 7, 3), (12, .aload_n 0, 1),
  (13, .invokevirtual 301, 3), (16, .ireturn, 1)])
set_option maxRecDepth 100000 in
theorem K_Mo_lot : mOk M_Mo_lot := by decide +kernel
def M_Mo_byLot : zM := ("WindBridesModel", ⟨"WindBridesModel", "byLot", "()I"⟩, prog_14_method_96_code, 1, (some .int), [
  (0, .aload_n 0, 1), (1, .getfield 9, 3), (4, .iconst 5, 1), (5, .aload_n 0, 1), (6, .getfield 9, 3), (9, .iconst 5, 1),
  (10, .iaload, 1), (11, .ldc_w 300, 3), (14, .imul, 1), (15, .sipush 12345, 3), (18, .iadd, 1), (19, .iastore, 1),
  (20, .aload_n 0, 1), (21, .aload_n 0, 1), (22, .getfield 9, 3), (25, .iconst 5, 1), (26, .iaload, 1), (27, .bipush 16, 2),
  (29, .iushr, 1), (30, .aload_n 0, 1), (31, .getfield 9, 3), (34, .iconst 3, 1), (35, .iaload, 1), (36, .iconst 1, 1),
  (37, .iadd, 1), (38, .irem, 1), (39, .iconst 1, 1), (40, .isub, 1), (41, .invokevirtual 227, 3), (44, .ireturn, 1)])
set_option maxRecDepth 100000 in
theorem K_Mo_byLot : mOk M_Mo_byLot := by decide +kernel
def M_Mo_often : zM := ("WindBridesModel", ⟨"WindBridesModel", "often", "(II)I"⟩, prog_14_method_98_code, 7, (some .int), [
  (0, .iload_n 1, 1), (1, .iconst 1, 1), (2, .bipush 40, 2), (4, .invokestatic 67, 3), (7, .ifCond .eq 14, 3), (10, .iload_n 2, 1),
  (11, .iconst 0, 1), (12, .sipush 999, 3), (15, .invokestatic 67, 3), (18, .ifCond .ne 5, 3), (21, .iconst (-1), 1), (22, .ireturn, 1),
  (23, .aload_n 0, 1), (24, .invokevirtual 194, 3), (27, .iconst 0, 1), (28, .istore_n 3, 1), (29, .iconst 0, 1), (30, .istore 4, 2),
  (32, .iload 4, 2), (34, .iload_n 1, 1), (35, .if_icmp .ge 65, 3), (38, .iconst 0, 1), (39, .istore 5, 2), (41, .aload_n 0, 1),
  (42, .invokevirtual 124, 3), (45, .ifCond .ne 15, 3), (48, .iload 5, 2), (50, .aload_n 0, 1), (51, .invokevirtual 301, 3), (54, .iadd, 1),
  (55, .istore 5, 2), (57, .goto (-16), 3), (60, .aload_n 0, 1), (61, .getfield 9, 3), (64, .iconst 5, 1), (65, .iaload, 1),
  (66, .istore 6, 2), (68, .aload_n 0, 1), (69, .invokevirtual 200, 3), (72, .aload_n 0, 1), (73, .getfield 9, 3), (76, .iconst 5, 1),
  (77, .iload 6, 2), (79, .iastore, 1), (80, .iload_n 3, 1), (81, .iload 5, 2), (83, .iload_n 2, 1), (84, .if_icmp .lt 7, 3),
  (87, .iconst 1, 1), (88, .goto 4, 3), (91, .iconst 0, 1), (92, .iadd, 1), (93, .istore_n 3, 1), (94, .iinc 4 1, 3),
  (97, .goto (-65), 3), (100, .aload_n 0, 1), (101, .invokevirtual 200, 3), (104, .iload_n 3, 1), (105, .ireturn, 1)])
set_option maxRecDepth 100000 in
theorem K_Mo_often : mOk M_Mo_often := by decide +kernel
def M_Mo_prove : zM := ("WindBridesModel", ⟨"WindBridesModel", "prove", "(I)I"⟩, prog_14_method_99_code, 4, (some .int), [
  (0, .iload_n 1, 1), (1, .iconst 0, 1), (2, .iconst 4, 1), (3, .invokestatic 67, 3), (6, .ifCond .ne 5, 3), (9, .iconst (-1), 1),
  (10, .ireturn, 1), (11, .aload_n 0, 1), (12, .iload_n 1, 1), (13, .invokevirtual 254, 3), (16, .istore_n 2, 1), (17, .aload_n 0, 1),
  (18, .iload_n 1, 1), (19, .invokevirtual 281, 3), (22, .aload_n 0, 1), (23, .invokevirtual 194, 3), (26, .iconst 0, 1), (27, .istore_n 3, 1),
  (28, .iload_n 3, 1), (29, .iload_n 2, 1), (30, .if_icmp .ge 72, 3), (33, .aload_n 0, 1), (34, .getfield 38, 3), (37, .iconst 3, 1),
  (38, .iload_n 3, 1), (39, .imul, 1), (40, .aload_n 0, 1), (41, .getfield 278, 3), (44, .aload_n 0, 1), (45, .getfield 16, 3),
  (48, .iconst 3, 1), (49, .iaload, 1), (50, .iconst 1, 1), (51, .iadd, 1), (52, .iload_n 3, 1), (53, .iload_n 2, 1),
  (54, .invokestatic 257, 3), (57, .iastore, 1), (58, .aload_n 0, 1), (59, .getfield 38, 3), (62, .iconst 3, 1), (63, .iload_n 3, 1),
  (64, .imul, 1), (65, .iconst 1, 1), (66, .iadd, 1), (67, .aload_n 0, 1), (68, .aload_n 0, 1), (69, .getfield 38, 3),
  (72, .iconst 3, 1), (73, .iload_n 3, 1), (74, .imul, 1), (75, .iaload, 1), (76, .iconst 1, 1), (77, .isub, 1),
  (78, .invokevirtual 227, 3), (81, .iastore, 1), (82, .aload_n 0, 1), (83, .getfield 38, 3), (86, .iconst 3, 1), (87, .iload_n 3, 1),
  (88, .imul, 1), (89, .iconst 2, 1), (90, .iadd, 1), (91, .aload_n 0, 1), (92, .invokevirtual 260, 3), (95, .iastore, 1),
  (96, .iinc 3 1, 3), (99, .goto (-71), 3), (102, .aload_n 0, 1), (103, .invokevirtual 200, 3), (106, .aload_n 0, 1), (107, .iload_n 2, 1),
  (108, .putfield 304, 3), (111, .aload_n 0, 1), (112, .getfield 304, 3), (115, .ireturn, 1)])
set_option maxRecDepth 100000 in
theorem K_Mo_prove : mOk M_Mo_prove := by decide +kernel
def M_Mo_row : zM := ("WindBridesModel", ⟨"WindBridesModel", "row", "(II)I"⟩, prog_14_method_101_code, 3, (some .int), [
  (0, .aload_n 0, 1), (1, .iload_n 1, 1), (2, .iload_n 2, 1), (3, .invokevirtual 307, 3), (6, .ifCond .eq 16, 3), (9, .aload_n 0, 1),
  (10, .getfield 38, 3), (13, .iconst 3, 1), (14, .iload_n 1, 1), (15, .imul, 1), (16, .iload_n 2, 1), (17, .iadd, 1),
  (18, .iaload, 1), (19, .goto 5, 3), (22, .bipush (-9), 2), (24, .ireturn, 1)])
set_option maxRecDepth 100000 in
theorem K_Mo_row : mOk M_Mo_row := by decide +kernel
def M_Mo_isRow : zM := ("WindBridesModel", ⟨"WindBridesModel", "isRow", "(II)Z"⟩, prog_14_method_100_code, 3, (some .boolean), [
  (0, .iload_n 1, 1), (1, .iconst 0, 1), (2, .aload_n 0, 1), (3, .getfield 304, 3), (6, .iconst 1, 1), (7, .isub, 1),
  (8, .invokestatic 67, 3), (11, .ifCond .eq 16, 3), (14, .iload_n 2, 1), (15, .iconst 0, 1), (16, .iconst 2, 1), (17, .invokestatic 67, 3),
  (20, .ifCond .eq 7, 3), (23, .iconst 1, 1), (24, .goto 4, 3), (27, .iconst 0, 1), (28, .ireturn, 1)])
set_option maxRecDepth 100000 in
theorem K_Mo_isRow : mOk M_Mo_isRow := by decide +kernel
def M_Mo_alterRow : zM := ("WindBridesModel", ⟨"WindBridesModel", "alterRow", "(III)I"⟩, prog_14_method_102_code, 5, (some .int), [
  (0, .aload_n 0, 1), (1, .iload_n 1, 1), (2, .iload_n 2, 1), (3, .invokevirtual 307, 3), (6, .ifCond .ne 6, 3), (9, .bipush (-9), 2),
  (11, .ireturn, 1), (12, .aload_n 0, 1), (13, .getfield 38, 3), (16, .iconst 3, 1), (17, .iload_n 1, 1), (18, .imul, 1),
  (19, .iload_n 2, 1), (20, .iadd, 1), (21, .iaload, 1), (22, .istore 4, 2), (24, .aload_n 0, 1), (25, .getfield 38, 3),
  (28, .iconst 3, 1), (29, .iload_n 1, 1), (30, .imul, 1), (31, .iload_n 2, 1), (32, .iadd, 1), (33, .iload_n 3, 1),
  (34, .iastore, 1), (35, .iload 4, 2), (37, .ireturn, 1)])
set_option maxRecDepth 100000 in
theorem K_Mo_alterRow : mOk M_Mo_alterRow := by decide +kernel
def M_Mo_judge : zM := ("WindBridesModel", ⟨"WindBridesModel", "judge", "()I"⟩, prog_14_method_103_code, 5, (some .int), [
  (0, .aload_n 0, 1), (1, .invokevirtual 194, 3), (4, .iconst 0, 1), (5, .istore_n 1, 1), (6, .iconst 0, 1), (7, .istore_n 2, 1),
  (8, .iload_n 2, 1), (9, .aload_n 0, 1), (10, .getfield 304, 3), (13, .if_icmp .ge 125, 3), (16, .iload_n 1, 1), (17, .ifCond .ne 121, 3),
  (20, .aload_n 0, 1), (21, .getfield 38, 3), (24, .iconst 3, 1), (25, .iload_n 2, 1), (26, .imul, 1), (27, .iaload, 1),
  (28, .iconst 0, 1), (29, .aload_n 0, 1), (30, .getfield 9, 3), (33, .iconst 3, 1), (34, .iaload, 1), (35, .invokestatic 67, 3),
  (38, .ifCond .eq 14, 3), (41, .aload_n 0, 1), (42, .invokevirtual 124, 3), (45, .ifCond .ne 7, 3), (48, .iconst 1, 1), (49, .goto 4, 3),
  (52, .iconst 0, 1), (53, .istore_n 3, 1), (54, .iload_n 3, 1), (55, .ifCond .eq 20, 3), (58, .aload_n 0, 1), (59, .aload_n 0, 1),
  (60, .getfield 38, 3), (63, .iconst 3, 1), (64, .iload_n 2, 1), (65, .imul, 1), (66, .iaload, 1), (67, .iconst 1, 1),
  (68, .isub, 1), (69, .invokevirtual 227, 3), (72, .goto 4, 3), (75, .iconst 0, 1), (76, .istore 4, 2), (78, .iload_n 3, 1),
  (79, .ifCond .eq 39, 3), (82, .iload 4, 2), (84, .aload_n 0, 1), (85, .getfield 38, 3), (88, .iconst 3, 1), (89, .iload_n 2, 1),
  (90, .imul, 1), (91, .iconst 1, 1), (92, .iadd, 1), (93, .iaload, 1), (94, .if_icmp .ne 24, 3), (97, .aload_n 0, 1),
  (98, .invokevirtual 260, 3), (101, .aload_n 0, 1), (102, .getfield 38, 3), (105, .iconst 3, 1), (106, .iload_n 2, 1), (107, .imul, 1),
  (108, .iconst 2, 1), (109, .iadd, 1), (110, .iaload, 1), (111, .if_icmp .ne 7, 3), (114, .iconst 1, 1), (115, .goto 4, 3),
  (118, .iconst 0, 1), (119, .istore_n 3, 1), (120, .iload_n 3, 1), (121, .ifCond .eq 7, 3), (124, .iconst 0, 1), (125, .goto 6, 3),
  (128, .iconst 1, 1), (129, .iload_n 2, 1), (130, .iadd, 1), (131, .istore_n 1, 1), (132, .iinc 2 1, 3), (135, .goto (-127), 3),
  (138, .aload_n 0, 1), (139, .invokevirtual 200, 3), (142, .iload_n 1, 1), (143, .ireturn, 1)])
set_option maxRecDepth 100000 in
theorem K_Mo_judge : mOk M_Mo_judge := by decide +kernel
def M_Mo_sheet : zM := ("WindBridesModel", ⟨"WindBridesModel", "sheet", "(III)I"⟩, prog_14_method_105_code, 5, (some .int), [
  (0, .iload_n 1, 1), (1, .invokestatic 310, 3), (4, .ifCond .eq 22, 3), (7, .iload_n 2, 1), (8, .iconst (-1), 1), (9, .iconst 4, 1),
  (10, .invokestatic 67, 3), (13, .ifCond .eq 13, 3), (16, .iload_n 2, 1), (17, .ifCond .lt 11, 3), (20, .iload_n 3, 1), (21, .bipush 40, 2),
  (23, .if_icmp .le 5, 3), (26, .iconst (-1), 1), (27, .ireturn, 1), (28, .iload_n 2, 1), (29, .ifCond .lt 10, 3), (32, .iload_n 3, 1),
  (33, .ifCond .ge 6, 3), (36, .bipush (-14), 2), (38, .ireturn, 1), (39, .aload_n 0, 1), (40, .getfield 41, 3), (43, .iload_n 1, 1),
  (44, .iload_n 2, 1), (45, .iastore, 1), (46, .aload_n 0, 1), (47, .getfield 44, 3), (50, .iload_n 1, 1), (51, .iload_n 2, 1),
  (52, .ifCond .ge 7, 3), (55, .iconst 0, 1), (56, .goto 4, 3), (59, .iload_n 3, 1), (60, .iastore, 1), (61, .iconst 0, 1),
  (62, .istore 4, 2), (64, .iload 4, 2), (66, .bipush 40, 2), (68, .if_icmp .ge 22, 3), (71, .aload_n 0, 1), (72, .getfield 47, 3),
  (75, .bipush 40, 2), (77, .iload_n 1, 1), (78, .imul, 1), (79, .iload 4, 2), (81, .iadd, 1), (82, .lconst 0, 1),
  (83, .lastore, 1), (84, .iinc 4 1, 3), (87, .goto (-23), 3), (90, .iconst 1, 1), (91, .ireturn, 1)])
set_option maxRecDepth 100000 in
theorem K_Mo_sheet : mOk M_Mo_sheet := by decide +kernel
def M_Mo_isFour : zM := ("WindBridesModel", ⟨"WindBridesModel", "isFour", "(I)Z"⟩, prog_14_method_104_code, 1, (some .boolean), [
  (0, .iload_n 0, 1), (1, .iconst 0, 1), (2, .iconst 3, 1), (3, .invokestatic 67, 3), (6, .ireturn, 1)])
set_option maxRecDepth 100000 in
theorem K_Mo_isFour : mOk M_Mo_isFour := by decide +kernel
def M_Mo_write : zM := ("WindBridesModel", ⟨"WindBridesModel", "write", "(III)I"⟩, prog_14_method_106_code, 5, (some .int), [
  (0, .iload_n 1, 1), (1, .invokestatic 310, 3), (4, .ifCond .ne 5, 3), (7, .iconst (-1), 1), (8, .ireturn, 1), (9, .aload_n 0, 1),
  (10, .getfield 41, 3), (13, .iload_n 1, 1), (14, .iaload, 1), (15, .ifCond .ge 6, 3), (18, .bipush (-11), 2), (20, .ireturn, 1),
  (21, .iload_n 2, 1), (22, .iconst 0, 1), (23, .aload_n 0, 1), (24, .getfield 44, 3), (27, .iload_n 1, 1), (28, .iaload, 1),
  (29, .iconst 1, 1), (30, .isub, 1), (31, .invokestatic 67, 3), (34, .ifCond .ne 6, 3), (37, .bipush (-12), 2), (39, .ireturn, 1),
  (40, .aload_n 0, 1), (41, .getfield 41, 3), (44, .iload_n 1, 1), (45, .iaload, 1), (46, .istore 4, 2), (48, .aload_n 0, 1),
  (49, .getfield 47, 3), (52, .bipush 40, 2), (54, .iload_n 1, 1), (55, .imul, 1), (56, .iload_n 2, 1), (57, .iadd, 1),
  (58, .iload 4, 2), (60, .ifCond .ne 9, 3), (63, .iload_n 3, 1), (64, .i2b, 1), (65, .i2l, 1), (66, .goto 35, 3),
  (69, .iload 4, 2), (71, .iconst 1, 1), (72, .if_icmp .ne 9, 3), (75, .iload_n 3, 1), (76, .i2s, 1), (77, .i2l, 1),
  (78, .goto 23, 3), (81, .iload 4, 2), (83, .iconst 4, 1), (84, .if_icmp .ne 15, 3), (87, .iload_n 3, 1), (88, .ifCond .eq 7, 3),
  (91, .lconst 1, 1), (92, .goto 9, 3), (95, .lconst 0, 1), (96, .goto 5, 3), (99, .iload_n 3, 1), (100, .i2l, 1),
  (101, .lastore, 1), (102, .iconst 1, 1), (103, .ireturn, 1)])
set_option maxRecDepth 100000 in
theorem K_Mo_write : mOk M_Mo_write := by decide +kernel
def M_Mo_item : zM := ("WindBridesModel", ⟨"WindBridesModel", "item", "(III)I"⟩, prog_14_method_107_code, 4, (some .int), [
  (0, .iload_n 1, 1), (1, .invokestatic 310, 3), (4, .ifCond .eq 12, 3), (7, .iload_n 2, 1), (8, .iconst 0, 1), (9, .iconst 4, 1),
  (10, .invokestatic 67, 3), (13, .ifCond .ne 5, 3), (16, .iconst (-1), 1), (17, .ireturn, 1), (18, .aload_n 0, 1), (19, .getfield 41, 3),
  (22, .iload_n 1, 1), (23, .iaload, 1), (24, .ifCond .ge 6, 3), (27, .bipush (-11), 2), (29, .ireturn, 1), (30, .aload_n 0, 1),
  (31, .getfield 41, 3), (34, .iload_n 1, 1), (35, .iaload, 1), (36, .iload_n 2, 1), (37, .if_icmp .eq 6, 3), (40, .bipush (-13), 2),
  (42, .ireturn, 1), (43, .iload_n 3, 1), (44, .iconst 0, 1), (45, .aload_n 0, 1), (46, .getfield 44, 3), (49, .iload_n 1, 1),
  (50, .iaload, 1), (51, .iconst 1, 1), (52, .isub, 1), (53, .invokestatic 67, 3), (56, .ifCond .eq 18, 3), (59, .aload_n 0, 1),
  (60, .getfield 47, 3), (63, .bipush 40, 2), (65, .iload_n 1, 1), (66, .imul, 1), (67, .iload_n 3, 1), (68, .iadd, 1),
  (69, .laload, 1), (70, .l2i, 1), (71, .goto 5, 3), (74, .bipush (-12), 2), (76, .ireturn, 1)])
set_option maxRecDepth 100000 in
theorem K_Mo_item : mOk M_Mo_item := by decide +kernel
def M_Mo_goAll : zM := ("WindBridesModel", ⟨"WindBridesModel", "goAll", "(III)I"⟩, prog_14_method_110_code, 8, (some .int), [
  (0, .aload_n 0, 1), (1, .iload_n 1, 1), (2, .iload_n 3, 1), (3, .invokevirtual 313, 3), (6, .istore 4, 2), (8, .iload 4, 2),
  (10, .ifCond .eq 6, 3), (13, .iload 4, 2), (15, .ireturn, 1), (16, .iconst 0, 1), (17, .istore 5, 2), (19, .iconst 0, 1),
  (20, .istore 6, 2), (22, .iload 6, 2), (24, .iload_n 3, 1), (25, .if_icmp .ge 82, 3), (28, .aload_n 0, 1), (29, .iload_n 1, 1),
  (30, .iload_n 2, 1), (31, .i2l, 1), (32, .iload 6, 2), (34, .i2l, 1), (35, .ladd, 1), (36, .invokevirtual 316, 3),
  (39, .ifCond .ne 6, 3), (42, .bipush (-12), 2), (44, .ireturn, 1), (45, .aload_n 0, 1), (46, .getfield 47, 3), (49, .bipush 40, 2),
  (51, .iload_n 1, 1), (52, .imul, 1), (53, .iload_n 2, 1), (54, .iadd, 1), (55, .iload 6, 2), (57, .iadd, 1),
  (58, .laload, 1), (59, .l2i, 1), (60, .istore 7, 2), (62, .iload 5, 2), (64, .iload 7, 2), (66, .iconst 0, 1),
  (67, .aload_n 0, 1), (68, .getfield 9, 3), (71, .iconst 3, 1), (72, .iaload, 1), (73, .invokestatic 67, 3), (76, .ifCond .eq 21, 3),
  (79, .aload_n 0, 1), (80, .invokevirtual 124, 3), (83, .ifCond .ne 14, 3), (86, .aload_n 0, 1), (87, .iload 7, 2), (89, .iconst 1, 1),
  (90, .isub, 1), (91, .invokevirtual 227, 3), (94, .goto 4, 3), (97, .iconst 0, 1), (98, .iadd, 1), (99, .istore 5, 2),
  (101, .iinc 6 1, 3), (104, .goto (-82), 3), (107, .iload 5, 2), (109, .ireturn, 1)])
set_option maxRecDepth 100000 in
theorem K_Mo_goAll : mOk M_Mo_goAll := by decide +kernel
def M_Mo_notActs : zM := ("WindBridesModel", ⟨"WindBridesModel", "notActs", "(II)I"⟩, prog_14_method_108_code, 3, (some .int), [
  (0, .iload_n 1, 1), (1, .invokestatic 310, 3), (4, .ifCond .eq 13, 3), (7, .iload_n 2, 1), (8, .iconst 0, 1), (9, .bipush 20, 2),
  (11, .invokestatic 67, 3), (14, .ifCond .ne 5, 3), (17, .iconst (-1), 1), (18, .ireturn, 1), (19, .aload_n 0, 1), (20, .getfield 41, 3),
  (23, .iload_n 1, 1), (24, .iaload, 1), (25, .ifCond .ge 8, 3), (28, .bipush (-11), 2), (30, .goto 18, 3), (33, .aload_n 0, 1),
  (34, .getfield 41, 3), (37, .iload_n 1, 1), (38, .iaload, 1), (39, .ifCond .ne 7, 3), (42, .iconst 0, 1), (43, .goto 5, 3),
  (46, .bipush (-13), 2), (48, .ireturn, 1)])
set_option maxRecDepth 100000 in
theorem K_Mo_notActs : mOk M_Mo_notActs := by decide +kernel
def M_Mo_isPlace : zM := ("WindBridesModel", ⟨"WindBridesModel", "isPlace", "(IJ)Z"⟩, prog_14_method_109_code, 4, (some .boolean), [
  (0, .lload_n 2, 1), (1, .lconst 0, 1), (2, .lcmp, 1), (3, .ifCond .lt 19, 3), (6, .lload_n 2, 1), (7, .aload_n 0, 1),
  (8, .getfield 44, 3), (11, .iload_n 1, 1), (12, .iaload, 1), (13, .i2l, 1), (14, .lcmp, 1), (15, .ifCond .ge 7, 3),
  (18, .iconst 1, 1), (19, .goto 4, 3), (22, .iconst 0, 1), (23, .ireturn, 1)])
set_option maxRecDepth 100000 in
theorem K_Mo_isPlace : mOk M_Mo_isPlace := by decide +kernel
def M_Mo_wouldBe : zM := ("WindBridesModel", ⟨"WindBridesModel", "wouldBe", "(III)I"⟩, prog_14_method_111_code, 9, (some .int), [
  (0, .aload_n 0, 1), (1, .iload_n 1, 1), (2, .iload_n 3, 1), (3, .invokevirtual 313, 3), (6, .istore 4, 2), (8, .iload 4, 2),
  (10, .ifCond .eq 6, 3), (13, .iload 4, 2), (15, .ireturn, 1), (16, .aload_n 0, 1), (17, .invokevirtual 194, 3), (20, .iconst 0, 1),
  (21, .istore 5, 2), (23, .iconst 0, 1), (24, .istore 6, 2), (26, .iload 6, 2), (28, .iload_n 3, 1), (29, .if_icmp .ge 115, 3),
  (32, .iload 4, 2), (34, .ifCond .ne 110, 3), (37, .aload_n 0, 1), (38, .iload_n 1, 1), (39, .iload_n 2, 1), (40, .i2l, 1),
  (41, .iload 6, 2), (43, .i2l, 1), (44, .ladd, 1), (45, .invokevirtual 316, 3), (48, .istore 7, 2), (50, .iload 7, 2),
  (52, .ifCond .eq 21, 3), (55, .aload_n 0, 1), (56, .getfield 47, 3), (59, .bipush 40, 2), (61, .iload_n 1, 1), (62, .imul, 1),
  (63, .iload_n 2, 1), (64, .iadd, 1), (65, .iload 6, 2), (67, .iadd, 1), (68, .laload, 1), (69, .l2i, 1),
  (70, .goto 4, 3), (73, .iconst 0, 1), (74, .istore 8, 2), (76, .iload 7, 2), (78, .ifCond .ne 8, 3), (81, .bipush (-12), 2),
  (83, .goto 31, 3), (86, .aload_n 0, 1), (87, .invokevirtual 124, 3), (90, .ifCond .ne 18, 3), (93, .iload 8, 2), (95, .iconst 0, 1),
  (96, .aload_n 0, 1), (97, .getfield 9, 3), (100, .iconst 3, 1), (101, .iaload, 1), (102, .invokestatic 67, 3), (105, .ifCond .ne 8, 3),
  (108, .bipush (-4), 2), (110, .goto 4, 3), (113, .iconst 0, 1), (114, .istore 4, 2), (116, .iload 5, 2), (118, .iload 4, 2),
  (120, .ifCond .ne 14, 3), (123, .aload_n 0, 1), (124, .iload 8, 2), (126, .iconst 1, 1), (127, .isub, 1), (128, .invokevirtual 227, 3),
  (131, .goto 4, 3), (134, .iconst 0, 1), (135, .iadd, 1), (136, .istore 5, 2), (138, .iinc 6 1, 3), (141, .goto (-115), 3),
  (144, .aload_n 0, 1), (145, .invokevirtual 200, 3), (148, .iload 4, 2), (150, .ifCond .ne 8, 3), (153, .iload 5, 2), (155, .goto 5, 3),
  (158, .iload 4, 2), (160, .ireturn, 1)])
set_option maxRecDepth 100000 in
theorem K_Mo_wouldBe : mOk M_Mo_wouldBe := by decide +kernel
def M_Mo_shelf : zM := ("WindBridesModel", ⟨"WindBridesModel", "shelf", "(III)I"⟩, prog_14_method_112_code, 5, (some .int), [
  (0, .iload_n 1, 1), (1, .invokestatic 310, 3), (4, .ifCond .eq 36, 3), (7, .iload_n 2, 1), (8, .iconst 0, 1), (9, .iconst 2, 1),
  (10, .invokestatic 67, 3), (13, .ifCond .eq 27, 3), (16, .iload_n 2, 1), (17, .ifCond .ne 11, 3), (20, .aload_n 0, 1), (21, .iload_n 3, 1),
  (22, .invokevirtual 92, 3), (25, .ifCond .eq 15, 3), (28, .iload_n 2, 1), (29, .iconst 1, 1), (30, .if_icmp .ne 12, 3), (33, .iload_n 3, 1),
  (34, .invokestatic 310, 3), (37, .ifCond .ne 5, 3), (40, .iconst (-1), 1), (41, .ireturn, 1), (42, .iload_n 2, 1), (43, .iconst 1, 1),
  (44, .if_icmp .ne 16, 3), (47, .aload_n 0, 1), (48, .getfield 41, 3), (51, .iload_n 3, 1), (52, .iaload, 1), (53, .ifCond .lt 7, 3),
  (56, .iconst 1, 1), (57, .goto 4, 3), (60, .iconst 0, 1), (61, .istore 4, 2), (63, .aload_n 0, 1), (64, .getfield 51, 3),
  (67, .iload_n 1, 1), (68, .iload_n 2, 1), (69, .iconst 1, 1), (70, .if_icmp .ne 12, 3), (73, .iload 4, 2), (75, .ifCond .ne 7, 3),
  (78, .iconst 2, 1), (79, .goto 4, 3), (82, .iload_n 2, 1), (83, .iastore, 1), (84, .aload_n 0, 1), (85, .getfield 54, 3),
  (88, .iload_n 1, 1), (89, .iload 4, 2), (91, .ifCond .eq 12, 3), (94, .aload_n 0, 1), (95, .getfield 41, 3), (98, .iload_n 3, 1),
  (99, .iaload, 1), (100, .goto 4, 3), (103, .iload_n 3, 1), (104, .iastore, 1), (105, .aload_n 0, 1), (106, .getfield 57, 3),
  (109, .iload_n 1, 1), (110, .iload 4, 2), (112, .ifCond .eq 12, 3), (115, .aload_n 0, 1), (116, .getfield 44, 3), (119, .iload_n 3, 1),
  (120, .iaload, 1), (121, .goto 4, 3), (124, .iconst 0, 1), (125, .iastore, 1), (126, .iconst 1, 1), (127, .ireturn, 1)])
set_option maxRecDepth 100000 in
theorem K_Mo_shelf : mOk M_Mo_shelf := by decide +kernel
def M_Mo_taken : zM := ("WindBridesModel", ⟨"WindBridesModel", "taken", "(II)I"⟩, prog_14_method_114_code, 3, (some .int), [
  (0, .iload_n 1, 1), (1, .invokestatic 310, 3), (4, .ifCond .eq 23, 3), (7, .iload_n 2, 1), (8, .iconst 0, 1), (9, .iconst 5, 1),
  (10, .invokestatic 67, 3), (13, .ifCond .ne 16, 3), (16, .iload_n 2, 1), (17, .bipush 10, 2), (19, .bipush 14, 2), (21, .invokestatic 67, 3),
  (24, .ifCond .ne 5, 3), (27, .iconst (-1), 1), (28, .ireturn, 1), (29, .aload_n 0, 1), (30, .iload_n 1, 1), (31, .invokevirtual 320, 3),
  (34, .ifCond .eq 39, 3), (37, .iload_n 2, 1), (38, .bipush 6, 2), (40, .if_icmp .ge 30, 3), (43, .aload_n 0, 1), (44, .aload_n 0, 1),
  (45, .getfield 54, 3), (48, .iload_n 1, 1), (49, .iaload, 1), (50, .iconst 0, 1), (51, .invokevirtual 75, 3), (54, .iload_n 2, 1),
  (55, .invokestatic 209, 3), (58, .ifCond .eq 12, 3), (61, .aload_n 0, 1), (62, .getfield 54, 3), (65, .iload_n 1, 1), (66, .iaload, 1),
  (67, .goto 5, 3), (70, .bipush (-13), 2), (72, .ireturn, 1), (73, .aload_n 0, 1), (74, .getfield 51, 3), (77, .iload_n 1, 1),
  (78, .iaload, 1), (79, .iconst 1, 1), (80, .if_icmp .eq 6, 3), (83, .bipush (-11), 2), (85, .ireturn, 1), (86, .iload_n 2, 1),
  (87, .bipush 10, 2), (89, .aload_n 0, 1), (90, .getfield 54, 3), (93, .iload_n 1, 1), (94, .iaload, 1), (95, .iadd, 1),
  (96, .if_icmp .ne 12, 3), (99, .aload_n 0, 1), (100, .getfield 57, 3), (103, .iload_n 1, 1), (104, .iaload, 1), (105, .goto 5, 3),
  (108, .bipush (-13), 2), (110, .ireturn, 1)])
set_option maxRecDepth 100000 in
theorem K_Mo_taken : mOk M_Mo_taken := by decide +kernel
def M_Mo_hasGirl : zM := ("WindBridesModel", ⟨"WindBridesModel", "hasGirl", "(I)Z"⟩, prog_14_method_113_code, 2, (some .boolean), [
  (0, .aload_n 0, 1), (1, .getfield 51, 3), (4, .iload_n 1, 1), (5, .iaload, 1), (6, .ifCond .ne 20, 3), (9, .aload_n 0, 1),
  (10, .aload_n 0, 1), (11, .getfield 54, 3), (14, .iload_n 1, 1), (15, .iaload, 1), (16, .invokevirtual 92, 3), (19, .ifCond .eq 7, 3),
  (22, .iconst 1, 1), (23, .goto 4, 3), (26, .iconst 0, 1), (27, .ireturn, 1)])
set_option maxRecDepth 100000 in
theorem K_Mo_hasGirl : mOk M_Mo_hasGirl := by decide +kernel
def M_Mo_act : zM := ("WindBridesModel", ⟨"WindBridesModel", "act", "(III)I"⟩, prog_14_method_125_code, 6, (some .int), [
  (0, .aload_n 0, 1), (1, .iconst 0, 1), (2, .putfield 323, 3), (5, .iload_n 1, 1), (6, .invokestatic 310, 3), (9, .ifCond .eq 20, 3),
  (12, .iload_n 2, 1), (13, .iconst 0, 1), (14, .iconst 3, 1), (15, .invokestatic 67, 3), (18, .ifCond .eq 11, 3), (21, .aload_n 0, 1),
  (22, .iload_n 1, 1), (23, .invokevirtual 320, 3), (26, .ifCond .ne 5, 3), (29, .iconst 0, 1), (30, .ireturn, 1), (31, .aload_n 0, 1),
  (32, .getfield 54, 3), (35, .iload_n 1, 1), (36, .iaload, 1), (37, .istore 4, 2), (39, .aload_n 0, 1), (40, .iconst 0, 1),
  (41, .putfield 338, 3), (44, .iload_n 2, 1), (45, .ifCond .ne 13, 3), (48, .aload_n 0, 1), (49, .iload 4, 2), (51, .iload_n 3, 1),
  (52, .invokevirtual 332, 3), (55, .goto 40, 3), (58, .iload_n 2, 1), (59, .iconst 1, 1), (60, .if_icmp .ne 13, 3), (63, .aload_n 0, 1),
  (64, .iload 4, 2), (66, .iload_n 3, 1), (67, .invokevirtual 347, 3), (70, .goto 25, 3), (73, .iload_n 2, 1), (74, .iconst 2, 1),
  (75, .if_icmp .ne 13, 3), (78, .aload_n 0, 1), (79, .iload 4, 2), (81, .iload_n 3, 1), (82, .invokevirtual 350, 3), (85, .goto 10, 3),
  (88, .aload_n 0, 1), (89, .iload 4, 2), (91, .iload_n 3, 1), (92, .invokevirtual 356, 3), (95, .istore 5, 2), (97, .aload_n 0, 1),
  (98, .getfield 338, 3), (101, .ifCond .eq 8, 3), (104, .bipush (-15), 2), (106, .goto 5, 3), (109, .iload 5, 2), (111, .ireturn, 1)])
set_option maxRecDepth 100000 in
theorem K_Mo_act : mOk M_Mo_act := by decide +kernel
def M_Mo_sails : zM := ("WindBridesModel", ⟨"WindBridesModel", "sails", "(II)I"⟩, prog_14_method_117_code, 3, (some .int), [
  (0, .aload_n 0, 1), (1, .iload_n 1, 1), (2, .iconst 0, 1), (3, .invokevirtual 75, 3), (6, .lookupswitch 56 #[(1, 26), (3, 41)], 26), (32, .aload_n 0, 1),
  (33, .bipush 20, 2), (35, .invokevirtual 326, 3), (38, .aload_n 0, 1), (39, .iload_n 1, 1), (40, .iload_n 2, 1), (41, .invokevirtual 329, 3),
  (44, .iconst 2, 1), (45, .isub, 1), (46, .ireturn, 1), (47, .aload_n 0, 1), (48, .bipush 50, 2), (50, .invokevirtual 326, 3),
  (53, .aload_n 0, 1), (54, .iload_n 1, 1), (55, .iload_n 2, 1), (56, .iconst 1, 1), (57, .iadd, 1), (58, .invokevirtual 329, 3),
  (61, .ireturn, 1), (62, .aload_n 0, 1), (63, .iload_n 1, 1), (64, .iload_n 2, 1), (65, .invokevirtual 329, 3), (68, .ireturn, 1)])
set_option maxRecDepth 100000 in
theorem K_Mo_sails : mOk M_Mo_sails := by decide +kernel
def M_Mo_begins : zM := ("WindBridesModel", ⟨"WindBridesModel", "begins", "(I)V"⟩, prog_14_method_115_code, 2, none, [
  (0, .aload_n 0, 1), (1, .getfield 323, 3), (4, .bipush 30, 2), (6, .if_icmp .ge 23, 3), (9, .aload_n 0, 1), (10, .getfield 60, 3),
  (13, .aload_n 0, 1), (14, .getfield 323, 3), (17, .iload_n 1, 1), (18, .iastore, 1), (19, .aload_n 0, 1), (20, .dup, 1),
  (21, .getfield 323, 3), (24, .iconst 1, 1), (25, .iadd, 1), (26, .putfield 323, 3), (29, .return_, 1)])
set_option maxRecDepth 100000 in
theorem K_Mo_begins : mOk M_Mo_begins := by decide +kernel
def M_Mo_plainSails : zM := ("WindBridesModel", ⟨"WindBridesModel", "plainSails", "(II)I"⟩, prog_14_method_116_code, 3, (some .int), [
  (0, .aload_n 0, 1), (1, .bipush 10, 2), (3, .invokevirtual 326, 3), (6, .iload_n 2, 1), (7, .iconst 3, 1), (8, .imul, 1),
  (9, .iload_n 1, 1), (10, .isub, 1), (11, .ireturn, 1)])
set_option maxRecDepth 100000 in
theorem K_Mo_plainSails : mOk M_Mo_plainSails := by decide +kernel
def M_Mo_calls : zM := ("WindBridesModel", ⟨"WindBridesModel", "calls", "(II)I"⟩, prog_14_method_119_code, 3, (some .int), [
  (0, .aload_n 0, 1), (1, .iload_n 1, 1), (2, .iconst 0, 1), (3, .invokevirtual 75, 3), (6, .tableswitch 60 2 5 #[30, 30, 60, 45], 30), (36, .aload_n 0, 1),
  (37, .bipush 30, 2), (39, .invokevirtual 326, 3), (42, .aload_n 0, 1), (43, .iload_n 1, 1), (44, .iload_n 2, 1), (45, .invokevirtual 335, 3),
  (48, .iload_n 1, 1), (49, .ixor, 1), (50, .ireturn, 1), (51, .aload_n 0, 1), (52, .bipush 60, 2), (54, .invokevirtual 326, 3),
  (57, .iconst 1, 1), (58, .aload_n 0, 1), (59, .iload_n 1, 1), (60, .iload_n 2, 1), (61, .invokevirtual 335, 3), (64, .isub, 1),
  (65, .ireturn, 1), (66, .aload_n 0, 1), (67, .iload_n 1, 1), (68, .iload_n 2, 1), (69, .invokevirtual 335, 3), (72, .ireturn, 1)])
set_option maxRecDepth 100000 in
theorem K_Mo_calls : mOk M_Mo_calls := by decide +kernel
def M_Mo_plainCalls : zM := ("WindBridesModel", ⟨"WindBridesModel", "plainCalls", "(II)I"⟩, prog_14_method_118_code, 3, (some .int), [
  (0, .aload_n 0, 1), (1, .bipush 11, 2), (3, .invokevirtual 326, 3), (6, .aload_n 0, 1), (7, .iload_n 1, 1), (8, .iload_n 2, 1),
  (9, .invokevirtual 332, 3), (12, .aload_n 0, 1), (13, .iload_n 1, 1), (14, .iconst 2, 1), (15, .invokevirtual 75, 3), (18, .iadd, 1),
  (19, .ireturn, 1)])
set_option maxRecDepth 100000 in
theorem K_Mo_plainCalls : mOk M_Mo_plainCalls := by decide +kernel
def M_Mo_shares : zM := ("WindBridesModel", ⟨"WindBridesModel", "shares", "(II)I"⟩, prog_14_method_122_code, 4, (some .int), [
  (0, .aload_n 0, 1), (1, .iload_n 1, 1), (2, .iconst 0, 1), (3, .invokevirtual 75, 3), (6, .lookupswitch 66 #[(4, 26), (5, 33)], 26), (32, .aload_n 0, 1),
  (33, .iload_n 1, 1), (34, .iload_n 2, 1), (35, .invokevirtual 344, 3), (38, .ireturn, 1), (39, .aload_n 0, 1), (40, .bipush 61, 2),
  (42, .invokevirtual 326, 3), (45, .aload_n 0, 1), (46, .iload_n 1, 1), (47, .iload_n 2, 1), (48, .invokevirtual 344, 3), (51, .istore_n 3, 1),
  (52, .aload_n 0, 1), (53, .getfield 338, 3), (56, .ifCond .eq 7, 3), (59, .iconst 0, 1), (60, .goto 11, 3), (63, .iload_n 3, 1),
  (64, .aload_n 0, 1), (65, .iload_n 1, 1), (66, .iload_n 1, 1), (67, .invokevirtual 332, 3), (70, .ixor, 1), (71, .ireturn, 1),
  (72, .aload_n 0, 1), (73, .iload_n 1, 1), (74, .iload_n 2, 1), (75, .invokevirtual 341, 3), (78, .ireturn, 1)])
set_option maxRecDepth 100000 in
theorem K_Mo_shares : mOk M_Mo_shares := by decide +kernel
def M_Mo_lateShares : zM := ("WindBridesModel", ⟨"WindBridesModel", "lateShares", "(II)I"⟩, prog_14_method_121_code, 3, (some .int), [
  (0, .aload_n 0, 1), (1, .bipush 40, 2), (3, .invokevirtual 326, 3), (6, .aload_n 0, 1), (7, .iload_n 1, 1), (8, .iload_n 2, 1),
  (9, .invokevirtual 341, 3), (12, .iconst 2, 1), (13, .imul, 1), (14, .ireturn, 1)])
set_option maxRecDepth 100000 in
theorem K_Mo_lateShares : mOk M_Mo_lateShares := by decide +kernel
def M_Mo_plainShares : zM := ("WindBridesModel", ⟨"WindBridesModel", "plainShares", "(II)I"⟩, prog_14_method_120_code, 4, (some .int), [
  (0, .aload_n 0, 1), (1, .bipush 12, 2), (3, .invokevirtual 326, 3), (6, .iload_n 1, 1), (7, .aload_n 0, 1), (8, .iload_n 1, 1),
  (9, .iconst 2, 1), (10, .invokevirtual 75, 3), (13, .isub, 1), (14, .istore_n 3, 1), (15, .aload_n 0, 1), (16, .iload_n 3, 1),
  (17, .ifCond .ne 7, 3), (20, .iconst 1, 1), (21, .goto 4, 3), (24, .iconst 0, 1), (25, .putfield 338, 3), (28, .aload_n 0, 1),
  (29, .getfield 338, 3), (32, .ifCond .ne 8, 3), (35, .iload_n 3, 1), (36, .iconst (-1), 1), (37, .if_icmp .ne 7, 3), (40, .iconst 0, 1),
  (41, .goto 6, 3), (44, .iload_n 2, 1), (45, .iload_n 3, 1), (46, .irem, 1), (47, .ireturn, 1)])
set_option maxRecDepth 100000 in
theorem K_Mo_plainShares : mOk M_Mo_plainShares := by decide +kernel
def M_Mo_weds : zM := ("WindBridesModel", ⟨"WindBridesModel", "weds", "(II)I"⟩, prog_14_method_124_code, 4, (some .int), [
  (0, .aload_n 0, 1), (1, .iload_n 1, 1), (2, .iconst 0, 1), (3, .invokevirtual 75, 3), (6, .iconst 3, 1), (7, .if_icmp .eq 10, 3),
  (10, .aload_n 0, 1), (11, .iload_n 1, 1), (12, .iload_n 2, 1), (13, .invokevirtual 353, 3), (16, .ireturn, 1), (17, .aload_n 0, 1),
  (18, .bipush 51, 2), (20, .invokevirtual 326, 3), (23, .aload_n 0, 1), (24, .iload_n 1, 1), (25, .iload_n 2, 1), (26, .invokevirtual 353, 3),
  (29, .istore_n 3, 1), (30, .aload_n 0, 1), (31, .getfield 338, 3), (34, .ifCond .eq 7, 3), (37, .iconst 0, 1), (38, .goto 16, 3),
  (41, .iload_n 3, 1), (42, .aload_n 0, 1), (43, .iload_n 1, 1), (44, .aload_n 0, 1), (45, .iload_n 1, 1), (46, .iconst 2, 1),
  (47, .invokevirtual 75, 3), (50, .invokevirtual 347, 3), (53, .iadd, 1), (54, .ireturn, 1)])
set_option maxRecDepth 100000 in
theorem K_Mo_weds : mOk M_Mo_weds := by decide +kernel
def M_Mo_plainWeds : zM := ("WindBridesModel", ⟨"WindBridesModel", "plainWeds", "(II)I"⟩, prog_14_method_123_code, 4, (some .int), [
  (0, .aload_n 0, 1), (1, .bipush 13, 2), (3, .invokevirtual 326, 3), (6, .aload_n 0, 1), (7, .iload_n 1, 1), (8, .iload_n 2, 1),
  (9, .invokevirtual 347, 3), (12, .istore_n 3, 1), (13, .iload_n 3, 1), (14, .aload_n 0, 1), (15, .iload_n 1, 1), (16, .iload_n 2, 1),
  (17, .invokevirtual 350, 3), (20, .isub, 1), (21, .ireturn, 1)])
set_option maxRecDepth 100000 in
theorem K_Mo_plainWeds : mOk M_Mo_plainWeds := by decide +kernel
def M_Mo_trace : zM := ("WindBridesModel", ⟨"WindBridesModel", "trace", "(I)I"⟩, prog_14_method_126_code, 2, (some .int), [
  (0, .iload_n 1, 1), (1, .iconst 0, 1), (2, .aload_n 0, 1), (3, .getfield 323, 3), (6, .iconst 1, 1), (7, .isub, 1),
  (8, .invokestatic 67, 3), (11, .ifCond .eq 12, 3), (14, .aload_n 0, 1), (15, .getfield 60, 3), (18, .iload_n 1, 1), (19, .iaload, 1),
  (20, .goto 5, 3), (23, .bipush (-3), 2), (25, .ireturn, 1)])
set_option maxRecDepth 100000 in
theorem K_Mo_trace : mOk M_Mo_trace := by decide +kernel
def M_Mo_many : zM := ("WindBridesModel", ⟨"WindBridesModel", "many", "(I)I"⟩, prog_14_method_128_code, 2, (some .int), [
  (0, .iload_n 1, 1), (1, .tableswitch 100 0 7 #[47, 54, 62, 69, 77, 82, 87, 92], 47), (48, .aload_n 0, 1), (49, .getfield 9, 3), (52, .iconst 3, 1), (53, .iaload, 1),
  (54, .ireturn, 1), (55, .aload_n 0, 1), (56, .getfield 9, 3), (59, .bipush 7, 2), (61, .iaload, 1), (62, .ireturn, 1),
  (63, .aload_n 0, 1), (64, .getfield 9, 3), (67, .iconst 2, 1), (68, .iaload, 1), (69, .ireturn, 1), (70, .aload_n 0, 1),
  (71, .getfield 9, 3), (74, .bipush 6, 2), (76, .iaload, 1), (77, .ireturn, 1), (78, .aload_n 0, 1), (79, .getfield 304, 3),
  (82, .ireturn, 1), (83, .aload_n 0, 1), (84, .getfield 128, 3), (87, .ireturn, 1), (88, .aload_n 0, 1), (89, .getfield 323, 3),
  (92, .ireturn, 1), (93, .aload_n 0, 1), (94, .invokevirtual 260, 3), (97, .invokestatic 359, 3), (100, .ireturn, 1), (101, .iconst (-1), 1),
  (102, .ireturn, 1)])
set_option maxRecDepth 100000 in
theorem K_Mo_many : mOk M_Mo_many := by decide +kernel
def M_Mo_bits : zM := ("WindBridesModel", ⟨"WindBridesModel", "bits", "(I)I"⟩, prog_14_method_127_code, 3, (some .int), [
  (0, .iconst 0, 1), (1, .istore_n 1, 1), (2, .iload_n 0, 1), (3, .istore_n 2, 1), (4, .iload_n 2, 1), (5, .ifCond .eq 15, 3),
  (8, .iinc 1 1, 3), (11, .iload_n 2, 1), (12, .iload_n 2, 1), (13, .iconst 1, 1), (14, .isub, 1), (15, .iand, 1),
  (16, .istore_n 2, 1), (17, .goto (-13), 3), (20, .iload_n 1, 1), (21, .ireturn, 1)])
set_option maxRecDepth 100000 in
theorem K_Mo_bits : mOk M_Mo_bits := by decide +kernel
def M_Mo_keep : zM := ("WindBridesModel", ⟨"WindBridesModel", "keep", "()I"⟩, prog_14_method_129_code, 1, (some .int), [
  (0, .aload_n 0, 1), (1, .getfield 9, 3), (4, .aload_n 0, 1), (5, .getfield 13, 3), (8, .invokestatic 63, 3), (11, .aload_n 0, 1),
  (12, .iconst 1, 1), (13, .putfield 362, 3), (16, .iconst 1, 1), (17, .ireturn, 1)])
set_option maxRecDepth 100000 in
theorem K_Mo_keep : mOk M_Mo_keep := by decide +kernel
def M_Mo_again : zM := ("WindBridesModel", ⟨"WindBridesModel", "again", "()I"⟩, prog_14_method_130_code, 1, (some .int), [
  (0, .aload_n 0, 1), (1, .getfield 362, 3), (4, .ifCond .ne 6, 3), (7, .bipush (-3), 2), (9, .ireturn, 1), (10, .aload_n 0, 1),
  (11, .getfield 13, 3), (14, .aload_n 0, 1), (15, .getfield 9, 3), (18, .invokestatic 63, 3), (21, .aload_n 0, 1), (22, .getfield 9, 3),
  (25, .iconst 3, 1), (26, .iaload, 1), (27, .ireturn, 1)])
set_option maxRecDepth 100000 in
theorem K_Mo_again : mOk M_Mo_again := by decide +kernel

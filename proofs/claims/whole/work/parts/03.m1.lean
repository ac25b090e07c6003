def M_Co_init : zM := ("WindBrides$Coast", ⟨"WindBrides$Coast", "<init>", "()V"⟩, prog_5_method_1_code, 1, none, [
  (0, .aload_n 0, 1), (1, .invokespecial 3, 3), (4, .aload_n 0, 1), (5, .bipush 6, 2), (7, .newarray .int, 2), (9, .putfield 9, 3),
  (12, .aload_n 0, 1), (13, .bipush 6, 2), (15, .newarray .int, 2), (17, .putfield 15, 3), (20, .aload_n 0, 1), (21, .bipush 6, 2),
  (23, .newarray .int, 2), (25, .putfield 18, 3), (28, .aload_n 0, 1), (29, .bipush 6, 2), (31, .newarray .int, 2), (33, .putfield 21, 3),
  (36, .aload_n 0, 1), (37, .bipush 6, 2), (39, .newarray .int, 2), (41, .putfield 24, 3), (44, .aload_n 0, 1), (45, .bipush 6, 2),
  (47, .newarray .int, 2), (49, .putfield 27, 3), (52, .aload_n 0, 1), (53, .bipush 6, 2), (55, .newarray .int, 2), (57, .putfield 30, 3),
  (60, .aload_n 0, 1), (61, .bipush 12, 2), (63, .putfield 33, 3), (66, .aload_n 0, 1), (67, .iconst 1, 1), (68, .putfield 37, 3),
  (71, .aload_n 0, 1), (72, .new 40, 3), (75, .dup, 1), (76, .invokespecial 42, 3), (79, .putfield 43, 3), (82, .aload_n 0, 1),
  (83, .new 47, 3), (86, .dup, 1), (87, .invokespecial 49, 3), (90, .putfield 50, 3), (93, .aload_n 0, 1), (94, .bipush 24, 2),
  (96, .newarray .int, 2), (98, .putfield 54, 3), (101, .aload_n 0, 1), (102, .bipush 6, 2), (104, .newarray .int, 2), (106, .putfield 57, 3),
  (109, .return_, 1)])
set_option maxRecDepth 100000 in
theorem K_Co_init : mOk M_Co_init := by decide +kernel
def M_Cr_init : zM := ("WindBrides$Course", ⟨"WindBrides$Course", "<init>", "()V"⟩, prog_6_method_1_code, 1, none, [
  (0, .aload_n 0, 1), (1, .invokespecial 3, 3), (4, .aload_n 0, 1), (5, .bipush 6, 2), (7, .newarray .int, 2), (9, .putfield 9, 3),
  (12, .aload_n 0, 1), (13, .bipush 6, 2), (15, .newarray .int, 2), (17, .putfield 15, 3), (20, .aload_n 0, 1), (21, .iconst 5, 1),
  (22, .newarray .int, 2), (24, .putfield 20, 3), (27, .return_, 1)])
set_option maxRecDepth 100000 in
theorem K_Cr_init : mOk M_Cr_init := by decide +kernel
def M_Bk_init : zM := ("WindBrides$Book", ⟨"WindBrides$Book", "<init>", "()V"⟩, prog_2_method_1_code, 1, none, [
  (0, .aload_n 0, 1), (1, .invokespecial 3, 3), (4, .aload_n 0, 1), (5, .bipush 8, 2), (7, .newarray .int, 2), (9, .putfield 11, 3),
  (12, .aload_n 0, 1), (13, .bipush 8, 2), (15, .newarray .int, 2), (17, .putfield 15, 3), (20, .aload_n 0, 1), (21, .bipush 9, 2),
  (23, .newarray .int, 2), (25, .putfield 18, 3), (28, .aload_n 0, 1), (29, .sipush 200, 3), (32, .newarray .int, 2), (34, .putfield 23, 3),
  (37, .return_, 1)])
set_option maxRecDepth 100000 in
theorem K_Bk_init : mOk M_Bk_init := by decide +kernel
def M_Ta_init : zM := ("WindBrides$Tape", ⟨"WindBrides$Tape", "<init>", "()V"⟩, prog_11_method_1_code, 1, none, [
  (0, .aload_n 0, 1), (1, .invokespecial 3, 3), (4, .aload_n 0, 1), (5, .sipush 200, 3), (8, .newarray .int, 2), (10, .putfield 11, 3),
  (13, .aload_n 0, 1), (14, .sipush 201, 3), (17, .newarray .int, 2), (19, .putfield 15, 3), (22, .aload_n 0, 1), (23, .sipush 201, 3),
  (26, .newarray .int, 2), (28, .putfield 18, 3), (31, .return_, 1)])
set_option maxRecDepth 100000 in
theorem K_Ta_init : mOk M_Ta_init := by decide +kernel
def M_Pl_init : zM := ("WindBrides$Plans", ⟨"WindBrides$Plans", "<init>", "()V"⟩, prog_9_method_1_code, 2, none, [
  (0, .aload_n 0, 1), (1, .invokespecial 3, 3), (4, .aload_n 0, 1), (5, .iconst 4, 1), (6, .newarray .int, 2), (8, .putfield 9, 3),
  (11, .aload_n 0, 1), (12, .bipush 12, 2), (14, .newarray .int, 2), (16, .putfield 15, 3), (19, .aload_n 0, 1), (20, .iconst 4, 1),
  (21, .newarray .int, 2), (23, .putfield 18, 3), (26, .aload_n 0, 1), (27, .iconst 5, 1), (28, .anewarray 21, 3), (31, .putfield 23, 3),
  (34, .iconst 0, 1), (35, .istore_n 1, 1), (36, .iload_n 1, 1), (37, .iconst 4, 1), (38, .if_icmp .gt 22, 3), (41, .aload_n 0, 1),
  (42, .getfield 23, 3), (45, .iload_n 1, 1), (46, .new 21, 3), (49, .dup, 1), (50, .invokespecial 27, 3), (53, .aastore, 1),
  (54, .iinc 1 1, 3), (57, .goto (-21), 3), (60, .return_, 1)])
set_option maxRecDepth 100000 in
theorem K_Pl_init : mOk M_Pl_init := by decide +kernel
def M_Co_addGirl : zM := ("WindBrides$Coast", ⟨"WindBrides$Coast", "addGirl", "(III)I"⟩, prog_5_method_7_code, 5, (some .int), [
  (0, .aload_n 0, 1), (1, .getfield 60, 3), (4, .istore 4, 2), (6, .aload_n 0, 1), (7, .getfield 9, 3), (10, .iload 4, 2),
  (12, .iload_n 1, 1), (13, .iastore, 1), (14, .aload_n 0, 1), (15, .getfield 15, 3), (18, .iload 4, 2), (20, .iload_n 2, 1),
  (21, .iastore, 1), (22, .aload_n 0, 1), (23, .getfield 18, 3), (26, .iload 4, 2), (28, .iload_n 3, 1), (29, .iastore, 1),
  (30, .aload_n 0, 1), (31, .getfield 43, 3), (34, .aload_n 0, 1), (35, .iload 4, 2), (37, .bipush 6, 2), (39, .invokevirtual 88, 3),
  (42, .aload_n 0, 1), (43, .dup, 1), (44, .getfield 60, 3), (47, .iconst 1, 1), (48, .iadd, 1), (49, .putfield 60, 3),
  (52, .iload 4, 2), (54, .ireturn, 1)])
set_option maxRecDepth 100000 in
theorem K_Co_addGirl : mOk M_Co_addGirl := by decide +kernel
def M_Cr_promiseTo : zM := ("WindBrides$Course", ⟨"WindBrides$Course", "promiseTo", "(LWindBrides$Coast;II)V"⟩, prog_6_method_3_code, 4, none, [
  (0, .aload_n 0, 1), (1, .getfield 9, 3), (4, .iload_n 2, 1), (5, .iload_n 3, 1), (6, .iastore, 1), (7, .aload_n 0, 1),
  (8, .getfield 15, 3), (11, .iload_n 2, 1), (12, .aload_n 1, 1), (13, .getfield 36, 3), (16, .iload_n 2, 1), (17, .iaload, 1),
  (18, .iastore, 1), (19, .return_, 1)])
set_option maxRecDepth 100000 in
theorem K_Cr_promiseTo : mOk M_Cr_promiseTo := by decide +kernel
def M_Co_hasGirl : zM := ("WindBrides$Coast", ⟨"WindBrides$Coast", "hasGirl", "(I)Z"⟩, prog_5_method_3_code, 2, (some .boolean), [
  (0, .iload_n 1, 1), (1, .ifCond .lt 15, 3), (4, .iload_n 1, 1), (5, .aload_n 0, 1), (6, .getfield 60, 3), (9, .if_icmp .ge 7, 3),
  (12, .iconst 1, 1), (13, .goto 4, 3), (16, .iconst 0, 1), (17, .ireturn, 1)])
set_option maxRecDepth 100000 in
theorem K_Co_hasGirl : mOk M_Co_hasGirl := by decide +kernel
def M_Cr_doesInCalm : zM := ("WindBrides$Course", ⟨"WindBrides$Course", "doesInCalm", "(LWindBrides$Coast;I)I"⟩, prog_6_method_7_code, 3, (some .int), [
  (0, .aload_n 0, 1), (1, .getfield 20, 3), (4, .iconst 0, 1), (5, .aload_n 0, 1), (6, .getfield 23, 3), (9, .iastore, 1),
  (10, .aload_n 0, 1), (11, .getfield 20, 3), (14, .iconst 1, 1), (15, .aload_n 0, 1), (16, .getfield 15, 3), (19, .iload_n 2, 1),
  (20, .iaload, 1), (21, .iastore, 1), (22, .aload_n 0, 1), (23, .getfield 20, 3), (26, .iconst 2, 1), (27, .aload_n 1, 1),
  (28, .getfield 36, 3), (31, .iload_n 2, 1), (32, .iaload, 1), (33, .iastore, 1), (34, .aload_n 0, 1), (35, .getfield 20, 3),
  (38, .iconst 3, 1), (39, .aload_n 1, 1), (40, .getfield 44, 3), (43, .iload_n 2, 1), (44, .iaload, 1), (45, .iastore, 1),
  (46, .aload_n 0, 1), (47, .getfield 20, 3), (50, .iconst 4, 1), (51, .iload_n 2, 1), (52, .iastore, 1), (53, .aload_n 1, 1),
  (54, .getfield 47, 3), (57, .aload_n 1, 1), (58, .getfield 51, 3), (61, .iload_n 2, 1), (62, .iaload, 1), (63, .aload_n 0, 1),
  (64, .getfield 20, 3), (67, .invokevirtual 54, 3), (70, .ireturn, 1)])
set_option maxRecDepth 100000 in
theorem K_Cr_doesInCalm : mOk M_Cr_doesInCalm := by decide +kernel
def M_Bk_tells : zM := ("WindBrides$Book", ⟨"WindBrides$Book", "tells", "(I[I)I"⟩, prog_2_method_6_code, 4, (some .int), [
  (0, .iconst 0, 1), (1, .istore_n 3, 1), (2, .iload_n 3, 1), (3, .aload_n 0, 1), (4, .getfield 26, 3), (7, .if_icmp .ge 38, 3),
  (10, .iload_n 1, 1), (11, .aload_n 0, 1), (12, .getfield 11, 3), (15, .iload_n 3, 1), (16, .iaload, 1), (17, .invokestatic 39, 3),
  (20, .ifCond .eq 19, 3), (23, .aload_n 0, 1), (24, .iload_n 3, 1), (25, .aload_n 2, 1), (26, .invokevirtual 43, 3), (29, .ifCond .eq 10, 3),
  (32, .aload_n 0, 1), (33, .getfield 15, 3), (36, .iload_n 3, 1), (37, .iaload, 1), (38, .ireturn, 1), (39, .iinc 3 1, 3),
  (42, .goto (-40), 3), (45, .iconst 0, 1), (46, .ireturn, 1)])
set_option maxRecDepth 100000 in
theorem K_Bk_tells : mOk M_Bk_tells := by decide +kernel
def M_Bk_holds : zM := ("WindBrides$Book", ⟨"WindBrides$Book", "holds", "(I[I)Z"⟩, prog_2_method_7_code, 5, (some .boolean), [
  (0, .iconst 1, 1), (1, .istore_n 3, 1), (2, .aload_n 0, 1), (3, .getfield 18, 3), (6, .iload_n 1, 1), (7, .iaload, 1),
  (8, .istore 4, 2), (10, .iload 4, 2), (12, .aload_n 0, 1), (13, .getfield 18, 3), (16, .iload_n 1, 1), (17, .iconst 1, 1),
  (18, .iadd, 1), (19, .iaload, 1), (20, .if_icmp .ge 115, 3), (23, .aload_n 0, 1), (24, .getfield 23, 3), (27, .iload 4, 2),
  (29, .iaload, 1), (30, .tableswitch 76 10 12 #[55, 33, 26], 26), (56, .iload_n 3, 1), (57, .iconst 1, 1), (58, .ixor, 1), (59, .istore_n 3, 1),
  (60, .goto 69, 3), (63, .iload_n 3, 1), (64, .iconst 1, 1), (65, .iand, 1), (66, .ifCond .eq 9, 3), (69, .iload_n 3, 1),
  (70, .iconst 1, 1), (71, .ishr, 1), (72, .goto 9, 3), (75, .iload_n 3, 1), (76, .iconst 1, 1), (77, .ishr, 1),
  (78, .bipush (-2), 2), (80, .iand, 1), (81, .istore_n 3, 1), (82, .goto 47, 3), (85, .iload_n 3, 1), (86, .iconst 1, 1),
  (87, .iand, 1), (88, .ifCond .eq 11, 3), (91, .iload_n 3, 1), (92, .iconst 1, 1), (93, .ishr, 1), (94, .iconst 1, 1),
  (95, .ior, 1), (96, .goto 6, 3), (99, .iload_n 3, 1), (100, .iconst 1, 1), (101, .ishr, 1), (102, .istore_n 3, 1),
  (103, .goto 26, 3), (106, .iload_n 3, 1), (107, .iconst 1, 1), (108, .ishl, 1), (109, .aload_n 0, 1), (110, .iload 4, 2),
  (112, .aload_n 2, 1), (113, .invokevirtual 47, 3), (116, .ifCond .eq 7, 3), (119, .iconst 1, 1), (120, .goto 4, 3), (123, .iconst 0, 1),
  (124, .ior, 1), (125, .istore_n 3, 1), (126, .iinc 4 2, 3), (129, .iinc 4 1, 3), (132, .goto (-122), 3), (135, .iload_n 3, 1),
  (136, .iconst 1, 1), (137, .iand, 1), (138, .ifCond .eq 7, 3), (141, .iconst 1, 1), (142, .goto 4, 3), (145, .iconst 0, 1),
  (146, .ireturn, 1)])
set_option maxRecDepth 100000 in
theorem K_Bk_holds : mOk M_Bk_holds := by decide +kernel
def M_Bk_compares : zM := ("WindBrides$Book", ⟨"WindBrides$Book", "compares", "(I[I)Z"⟩, prog_2_method_8_code, 5, (some .boolean), [
  (0, .iload_n 1, 1), (1, .iconst 2, 1), (2, .iadd, 1), (3, .aload_n 0, 1), (4, .getfield 23, 3), (7, .arraylength, 1),
  (8, .if_icmp .lt 5, 3), (11, .iconst 0, 1), (12, .ireturn, 1), (13, .aload_n 0, 1), (14, .getfield 23, 3), (17, .iload_n 1, 1),
  (18, .iconst 1, 1), (19, .iadd, 1), (20, .iaload, 1), (21, .bipush 100, 2), (23, .if_icmp .lt 17, 3), (26, .aload_n 0, 1),
  (27, .getfield 23, 3), (30, .iload_n 1, 1), (31, .iconst 1, 1), (32, .iadd, 1), (33, .iaload, 1), (34, .bipush 100, 2),
  (36, .isub, 1), (37, .goto 16, 3), (40, .aload_n 2, 1), (41, .aload_n 0, 1), (42, .getfield 23, 3), (45, .iload_n 1, 1),
  (46, .iconst 1, 1), (47, .iadd, 1), (48, .iaload, 1), (49, .bipush 13, 2), (51, .isub, 1), (52, .iaload, 1),
  (53, .istore_n 3, 1), (54, .aload_n 0, 1), (55, .getfield 23, 3), (58, .iload_n 1, 1), (59, .iconst 2, 1), (60, .iadd, 1),
  (61, .iaload, 1), (62, .bipush 100, 2), (64, .if_icmp .lt 17, 3), (67, .aload_n 0, 1), (68, .getfield 23, 3), (71, .iload_n 1, 1),
  (72, .iconst 2, 1), (73, .iadd, 1), (74, .iaload, 1), (75, .bipush 100, 2), (77, .isub, 1), (78, .goto 16, 3),
  (81, .aload_n 2, 1), (82, .aload_n 0, 1), (83, .getfield 23, 3), (86, .iload_n 1, 1), (87, .iconst 2, 1), (88, .iadd, 1),
  (89, .iaload, 1), (90, .bipush 13, 2), (92, .isub, 1), (93, .iaload, 1), (94, .istore 4, 2), (96, .aload_n 0, 1),
  (97, .getfield 23, 3), (100, .iload_n 1, 1), (101, .iaload, 1), (102, .lookupswitch 50 #[(21, 26), (22, 38)], 26), (128, .iload_n 3, 1), (129, .iload 4, 2),
  (131, .if_icmp .ge 7, 3), (134, .iconst 1, 1), (135, .goto 4, 3), (138, .iconst 0, 1), (139, .ireturn, 1), (140, .iload_n 3, 1),
  (141, .iload 4, 2), (143, .if_icmp .ne 7, 3), (146, .iconst 1, 1), (147, .goto 4, 3), (150, .iconst 0, 1), (151, .ireturn, 1),
  (152, .iload_n 3, 1), (153, .iload 4, 2), (155, .if_icmp .le 7, 3), (158, .iconst 1, 1), (159, .goto 4, 3), (162, .iconst 0, 1),
  (163, .ireturn, 1)])
set_option maxRecDepth 100000 in
theorem K_Bk_compares : mOk M_Bk_compares := by decide +kernel
def M_Co_addWind : zM := ("WindBrides$Coast", ⟨"WindBrides$Coast", "addWind", "(IIII)I"⟩, prog_5_method_8_code, 6, (some .int), [
  (0, .aload_n 0, 1), (1, .getfield 69, 3), (4, .istore 5, 2), (6, .aload_n 0, 1), (7, .getfield 21, 3), (10, .iload 5, 2),
  (12, .iload_n 1, 1), (13, .iastore, 1), (14, .aload_n 0, 1), (15, .getfield 24, 3), (18, .iload 5, 2), (20, .iload_n 2, 1),
  (21, .iastore, 1), (22, .aload_n 0, 1), (23, .getfield 27, 3), (26, .iload 5, 2), (28, .iload_n 3, 1), (29, .iastore, 1),
  (30, .aload_n 0, 1), (31, .getfield 30, 3), (34, .iload 5, 2), (36, .iload 4, 2), (38, .iastore, 1), (39, .aload_n 0, 1),
  (40, .dup, 1), (41, .getfield 69, 3), (44, .iconst 1, 1), (45, .iadd, 1), (46, .putfield 69, 3), (49, .iload 5, 2),
  (51, .ireturn, 1)])
set_option maxRecDepth 100000 in
theorem K_Co_addWind : mOk M_Co_addWind := by decide +kernel
def M_Co_hasWind : zM := ("WindBrides$Coast", ⟨"WindBrides$Coast", "hasWind", "(I)Z"⟩, prog_5_method_4_code, 2, (some .boolean), [
  (0, .iload_n 1, 1), (1, .ifCond .lt 15, 3), (4, .iload_n 1, 1), (5, .aload_n 0, 1), (6, .getfield 69, 3), (9, .if_icmp .ge 7, 3),
  (12, .iconst 1, 1), (13, .goto 4, 3), (16, .iconst 0, 1), (17, .ireturn, 1)])
set_option maxRecDepth 100000 in
theorem K_Co_hasWind : mOk M_Co_hasWind := by decide +kernel
def M_Cr_bridesOf : zM := ("WindBrides$Course", ⟨"WindBrides$Course", "bridesOf", "(LWindBrides$Coast;I)I"⟩, prog_6_method_5_code, 5, (some .int), [
  (0, .iconst 0, 1), (1, .istore_n 3, 1), (2, .iconst 0, 1), (3, .istore 4, 2), (5, .iload 4, 2), (7, .aload_n 1, 1),
  (8, .getfield 41, 3), (11, .if_icmp .ge 31, 3), (14, .iload_n 3, 1), (15, .aload_n 0, 1), (16, .getfield 9, 3), (19, .iload 4, 2),
  (21, .iaload, 1), (22, .iload_n 2, 1), (23, .if_icmp .ne 10, 3), (26, .iconst 1, 1), (27, .iload 4, 2), (29, .ishl, 1),
  (30, .goto 4, 3), (33, .iconst 0, 1), (34, .ior, 1), (35, .istore_n 3, 1), (36, .iinc 4 1, 3), (39, .goto (-34), 3),
  (42, .iload_n 3, 1), (43, .ireturn, 1)])
set_option maxRecDepth 100000 in
theorem K_Cr_bridesOf : mOk M_Cr_bridesOf := by decide +kernel
def M_Co_blows : zM := ("WindBrides$Coast", ⟨"WindBrides$Coast", "blows", "(II)Z"⟩, prog_5_method_9_code, 3, (some .boolean), [
  (0, .iload_n 1, 1), (1, .aload_n 0, 1), (2, .getfield 69, 3), (5, .if_icmp .ge 27, 3), (8, .aload_n 0, 1), (9, .getfield 27, 3),
  (12, .iload_n 1, 1), (13, .iaload, 1), (14, .iload_n 2, 1), (15, .if_icmp .gt 17, 3), (18, .iload_n 2, 1), (19, .aload_n 0, 1),
  (20, .getfield 30, 3), (23, .iload_n 1, 1), (24, .iaload, 1), (25, .if_icmp .gt 7, 3), (28, .iconst 1, 1), (29, .goto 4, 3),
  (32, .iconst 0, 1), (33, .ireturn, 1)])
set_option maxRecDepth 100000 in
theorem K_Co_blows : mOk M_Co_blows := by decide +kernel
def M_Co_gainBy : zM := ("WindBrides$Coast", ⟨"WindBrides$Coast", "gainBy", "(III)I"⟩, prog_5_method_10_code, 4, (some .int), [
  (0, .aload_n 0, 1), (1, .getfield 9, 3), (4, .iload_n 1, 1), (5, .iaload, 1), (6, .aload_n 0, 1), (7, .getfield 24, 3),
  (10, .iload_n 2, 1), (11, .iaload, 1), (12, .aload_n 0, 1), (13, .getfield 21, 3), (16, .iload_n 2, 1), (17, .iaload, 1),
  (18, .aload_n 0, 1), (19, .getfield 15, 3), (22, .iload_n 1, 1), (23, .iaload, 1), (24, .invokestatic 92, 3), (27, .iload_n 3, 1),
  (28, .invokestatic 96, 3), (31, .ireturn, 1)])
set_option maxRecDepth 100000 in
theorem K_Co_gainBy : mOk M_Co_gainBy := by decide +kernel
def M_Co_isOver : zM := ("WindBrides$Coast", ⟨"WindBrides$Coast", "isOver", "()Z"⟩, prog_5_method_5_code, 1, (some .boolean), [
  (0, .aload_n 0, 1), (1, .getfield 43, 3), (4, .getfield 85, 3), (7, .aload_n 0, 1), (8, .getfield 33, 3), (11, .if_icmp .lt 7, 3),
  (14, .iconst 1, 1), (15, .goto 4, 3), (18, .iconst 0, 1), (19, .ireturn, 1)])
set_option maxRecDepth 100000 in
theorem K_Co_isOver : mOk M_Co_isOver := by decide +kernel
def M_Ta_hasRoomFor : zM := ("WindBrides$Tape", ⟨"WindBrides$Tape", "hasRoomFor", "(I)Z"⟩, prog_11_method_2_code, 2, (some .boolean), [
  (0, .aload_n 0, 1), (1, .getfield 21, 3), (4, .iload_n 1, 1), (5, .iadd, 1), (6, .sipush 200, 3), (9, .if_icmp .gt 7, 3),
  (12, .iconst 1, 1), (13, .goto 4, 3), (16, .iconst 0, 1), (17, .ireturn, 1)])
set_option maxRecDepth 100000 in
theorem K_Ta_hasRoomFor : mOk M_Ta_hasRoomFor := by decide +kernel
def M_Ta_takes : zM := ("WindBrides$Tape", ⟨"WindBrides$Tape", "takes", "(JI)I"⟩, prog_11_method_3_code, 5, (some .int), [
  (0, .iconst 0, 1), (1, .istore 4, 2), (3, .iload 4, 2), (5, .iload_n 3, 1), (6, .if_icmp .ge 50, 3), (9, .aload_n 0, 1),
  (10, .getfield 21, 3), (13, .sipush 200, 3), (16, .if_icmp .ge 40, 3), (19, .aload_n 0, 1), (20, .getfield 11, 3), (23, .aload_n 0, 1),
  (24, .getfield 21, 3), (27, .lload_n 1, 1), (28, .bipush 8, 2), (30, .iload 4, 2), (32, .imul, 1), (33, .lushr, 1),
  (34, .l2i, 1), (35, .sipush 255, 3), (38, .iand, 1), (39, .iastore, 1), (40, .aload_n 0, 1), (41, .dup, 1),
  (42, .getfield 21, 3), (45, .iconst 1, 1), (46, .iadd, 1), (47, .putfield 21, 3), (50, .iinc 4 1, 3), (53, .goto (-50), 3),
  (56, .aload_n 0, 1), (57, .getfield 21, 3), (60, .ireturn, 1)])
set_option maxRecDepth 100000 in
theorem K_Ta_takes : mOk M_Ta_takes := by decide +kernel
def M_Ta_readInto : zM := ("WindBrides$Tape", ⟨"WindBrides$Tape", "readInto", "(LWindBrides$Book;)I"⟩, prog_11_method_4_code, 4, (some .int), [
  (0, .aload_n 0, 1), (1, .invokevirtual 25, 3), (4, .aload_n 0, 1), (5, .iconst 0, 1), (6, .putfield 21, 3), (9, .aload_n 0, 1),
  (10, .iconst 0, 1), (11, .putfield 28, 3), (14, .aload_n 1, 1), (15, .invokevirtual 31, 3), (18, .iconst 1, 1), (19, .istore_n 2, 1),
  (20, .iconst 0, 1), (21, .istore_n 3, 1), (22, .iload_n 3, 1), (23, .bipush 8, 2), (25, .if_icmp .ge 33, 3), (28, .iload_n 2, 1),
  (29, .ifCond .eq 29, 3), (32, .aload_n 0, 1), (33, .getfield 15, 3), (36, .aload_n 0, 1), (37, .getfield 28, 3), (40, .iaload, 1),
  (41, .bipush 25, 2), (43, .if_icmp .eq 15, 3), (46, .aload_n 0, 1), (47, .aload_n 1, 1), (48, .invokevirtual 36, 3), (51, .istore_n 2, 1),
  (52, .iinc 3 1, 3), (55, .goto (-33), 3), (58, .iload_n 2, 1), (59, .ifCond .eq 24, 3), (62, .aload_n 0, 1), (63, .getfield 15, 3),
  (66, .aload_n 0, 1), (67, .getfield 28, 3), (70, .iaload, 1), (71, .bipush 25, 2), (73, .if_icmp .ne 10, 3), (76, .aload_n 1, 1),
  (77, .getfield 40, 3), (80, .goto 15, 3), (83, .bipush (-100), 2), (85, .aload_n 0, 1), (86, .getfield 18, 3), (89, .aload_n 0, 1),
  (90, .getfield 28, 3), (93, .iaload, 1), (94, .isub, 1), (95, .ireturn, 1)])
set_option maxRecDepth 100000 in
theorem K_Ta_readInto : mOk M_Ta_readInto := by decide +kernel
def M_Ta_split : zM := ("WindBrides$Tape", ⟨"WindBrides$Tape", "split", "()V"⟩, prog_11_method_5_code, 3, none, [
  (0, .iconst 0, 1), (1, .istore_n 1, 1), (2, .iconst 0, 1), (3, .istore_n 2, 1), (4, .iload_n 2, 1), (5, .aload_n 0, 1),
  (6, .getfield 21, 3), (9, .if_icmp .ge 49, 3), (12, .aload_n 0, 1), (13, .getfield 11, 3), (16, .iload_n 2, 1), (17, .iaload, 1),
  (18, .bipush 32, 2), (20, .if_icmp .eq 32, 3), (23, .aload_n 0, 1), (24, .iload_n 2, 1), (25, .invokevirtual 43, 3), (28, .ifCond .ne 24, 3),
  (31, .aload_n 0, 1), (32, .getfield 15, 3), (35, .iload_n 1, 1), (36, .aload_n 0, 1), (37, .iload_n 2, 1), (38, .invokevirtual 47, 3),
  (41, .iastore, 1), (42, .aload_n 0, 1), (43, .getfield 18, 3), (46, .iload_n 1, 1), (47, .iload_n 2, 1), (48, .iastore, 1),
  (49, .iinc 1 1, 3), (52, .iinc 2 1, 3), (55, .goto (-51), 3), (58, .aload_n 0, 1), (59, .getfield 15, 3), (62, .iload_n 1, 1),
  (63, .bipush 25, 2), (65, .iastore, 1), (66, .aload_n 0, 1), (67, .getfield 18, 3), (70, .iload_n 1, 1), (71, .aload_n 0, 1),
  (72, .getfield 21, 3), (75, .iastore, 1), (76, .return_, 1)])
set_option maxRecDepth 100000 in
theorem K_Ta_split : mOk M_Ta_split := by decide +kernel
def M_Ta_goesOn : zM := ("WindBrides$Tape", ⟨"WindBrides$Tape", "goesOn", "(I)Z"⟩, prog_11_method_8_code, 2, (some .boolean), [
  (0, .iload_n 1, 1), (1, .ifCond .ne 5, 3), (4, .iconst 0, 1), (5, .ireturn, 1), (6, .aload_n 0, 1), (7, .getfield 11, 3),
  (10, .iload_n 1, 1), (11, .iconst 1, 1), (12, .isub, 1), (13, .iaload, 1), (14, .invokestatic 51, 3), (17, .ifCond .eq 15, 3),
  (20, .aload_n 0, 1), (21, .getfield 11, 3), (24, .iload_n 1, 1), (25, .iaload, 1), (26, .invokestatic 51, 3), (29, .ifCond .ne 29, 3),
  (32, .aload_n 0, 1), (33, .getfield 11, 3), (36, .iload_n 1, 1), (37, .iconst 1, 1), (38, .isub, 1), (39, .iaload, 1),
  (40, .invokestatic 54, 3), (43, .ifCond .eq 19, 3), (46, .aload_n 0, 1), (47, .getfield 11, 3), (50, .iload_n 1, 1), (51, .iaload, 1),
  (52, .invokestatic 54, 3), (55, .ifCond .eq 7, 3), (58, .iconst 1, 1), (59, .goto 4, 3), (62, .iconst 0, 1), (63, .ireturn, 1)])
set_option maxRecDepth 100000 in
theorem K_Ta_goesOn : mOk M_Ta_goesOn := by decide +kernel
def M_Ta_isLetter : zM := ("WindBrides$Tape", ⟨"WindBrides$Tape", "isLetter", "(I)Z"⟩, prog_11_method_6_code, 1, (some .boolean), [
  (0, .iload_n 0, 1), (1, .bipush 97, 2), (3, .if_icmp .lt 13, 3), (6, .iload_n 0, 1), (7, .bipush 122, 2), (9, .if_icmp .gt 7, 3),
  (12, .iconst 1, 1), (13, .goto 4, 3), (16, .iconst 0, 1), (17, .ireturn, 1)])
set_option maxRecDepth 100000 in
theorem K_Ta_isLetter : mOk M_Ta_isLetter := by decide +kernel
def M_Ta_isDigit : zM := ("WindBrides$Tape", ⟨"WindBrides$Tape", "isDigit", "(I)Z"⟩, prog_11_method_7_code, 1, (some .boolean), [
  (0, .iload_n 0, 1), (1, .bipush 48, 2), (3, .if_icmp .lt 13, 3), (6, .iload_n 0, 1), (7, .bipush 57, 2), (9, .if_icmp .gt 7, 3),
  (12, .iconst 1, 1), (13, .goto 4, 3), (16, .iconst 0, 1), (17, .ireturn, 1)])
set_option maxRecDepth 100000 in
theorem K_Ta_isDigit : mOk M_Ta_isDigit := by decide +kernel
def M_Ta_tokenOf : zM := ("WindBrides$Tape", ⟨"WindBrides$Tape", "tokenOf", "(I)I"⟩, prog_11_method_9_code, 3, (some .int), [
  (0, .iload_n 1, 1), (1, .iconst 1, 1), (2, .iadd, 1), (3, .istore_n 2, 1), (4, .iload_n 2, 1), (5, .aload_n 0, 1),
  (6, .getfield 21, 3), (9, .if_icmp .ge 17, 3), (12, .aload_n 0, 1), (13, .iload_n 2, 1), (14, .invokevirtual 43, 3), (17, .ifCond .eq 9, 3),
  (20, .iinc 2 1, 3), (23, .goto (-19), 3), (26, .aload_n 0, 1), (27, .getfield 11, 3), (30, .iload_n 1, 1), (31, .iaload, 1),
  (32, .invokestatic 51, 3), (35, .ifCond .eq 12, 3), (38, .aload_n 0, 1), (39, .iload_n 1, 1), (40, .iload_n 2, 1), (41, .iload_n 1, 1),
  (42, .isub, 1), (43, .invokevirtual 57, 3), (46, .ireturn, 1), (47, .aload_n 0, 1), (48, .getfield 11, 3), (51, .iload_n 1, 1),
  (52, .iaload, 1), (53, .invokestatic 54, 3), (56, .ifCond .eq 10, 3), (59, .aload_n 0, 1), (60, .iload_n 1, 1), (61, .iload_n 2, 1),
  (62, .invokevirtual 61, 3), (65, .ireturn, 1), (66, .aload_n 0, 1), (67, .getfield 11, 3), (70, .iload_n 1, 1), (71, .iaload, 1),
  (72, .lookupswitch 78 #[(40, 63), (41, 66), (59, 60), (60, 69), (61, 72), (62, 75)], 60), (132, .bipush 18, 2), (134, .ireturn, 1), (135, .bipush 19, 2), (137, .ireturn, 1), (138, .bipush 20, 2),
  (140, .ireturn, 1), (141, .bipush 21, 2), (143, .ireturn, 1), (144, .bipush 22, 2), (146, .ireturn, 1), (147, .bipush 23, 2),
  (149, .ireturn, 1), (150, .bipush 24, 2), (152, .ireturn, 1)])
set_option maxRecDepth 100000 in
theorem K_Ta_tokenOf : mOk M_Ta_tokenOf := by decide +kernel
def M_Ta_wordOf : zM := ("WindBrides$Tape", ⟨"WindBrides$Tape", "wordOf", "(II)I"⟩, prog_11_method_11_code, 4, (some .int), [
  (0, .iconst 0, 1), (1, .istore_n 3, 1), (2, .iload_n 3, 1), (3, .bipush 18, 2), (5, .if_icmp .ge 27, 3), (8, .iload_n 2, 1),
  (9, .bipush 7, 2), (11, .if_icmp .ge 21, 3), (14, .aload_n 0, 1), (15, .iload_n 3, 1), (16, .iload_n 1, 1), (17, .iload_n 2, 1),
  (18, .invokevirtual 64, 3), (21, .ifCond .eq 5, 3), (24, .iload_n 3, 1), (25, .ireturn, 1), (26, .iinc 3 1, 3), (29, .goto (-27), 3),
  (32, .bipush 24, 2), (34, .ireturn, 1)])
set_option maxRecDepth 100000 in
theorem K_Ta_wordOf : mOk M_Ta_wordOf := by decide +kernel
def M_Ta_isWord : zM := ("WindBrides$Tape", ⟨"WindBrides$Tape", "isWord", "(III)Z"⟩, prog_11_method_12_code, 5, (some .boolean), [
  (0, .iconst 0, 1), (1, .istore 4, 2), (3, .iload 4, 2), (5, .iload_n 3, 1), (6, .if_icmp .ge 35, 3), (9, .aload_n 0, 1),
  (10, .getfield 11, 3), (13, .iload_n 2, 1), (14, .iload 4, 2), (16, .iadd, 1), (17, .iaload, 1), (18, .ldc 68, 2),
  (20, .iload_n 1, 1), (21, .bipush 7, 2), (23, .imul, 1), (24, .iload 4, 2), (26, .iadd, 1), (27, .invokevirtual 70, 3),
  (30, .if_icmp .eq 5, 3), (33, .iconst 0, 1), (34, .ireturn, 1), (35, .iinc 4 1, 3), (38, .goto (-35), 3), (41, .ldc 68, 2),
  (43, .iload_n 1, 1), (44, .bipush 7, 2), (46, .imul, 1), (47, .iload_n 3, 1), (48, .iadd, 1), (49, .invokevirtual 70, 3),
  (52, .bipush 32, 2), (54, .if_icmp .ne 7, 3), (57, .iconst 1, 1), (58, .goto 4, 3), (61, .iconst 0, 1), (62, .ireturn, 1)])
set_option maxRecDepth 100000 in
theorem K_Ta_isWord : mOk M_Ta_isWord := by decide +kernel
def M_Ta_numberOf : zM := ("WindBrides$Tape", ⟨"WindBrides$Tape", "numberOf", "(II)I"⟩, prog_11_method_10_code, 5, (some .int), [
  (0, .iload_n 2, 1), (1, .iload_n 1, 1), (2, .isub, 1), (3, .iconst 4, 1), (4, .if_icmp .le 6, 3), (7, .bipush 24, 2),
  (9, .ireturn, 1), (10, .iconst 0, 1), (11, .istore_n 3, 1), (12, .iload_n 1, 1), (13, .istore 4, 2), (15, .iload 4, 2),
  (17, .iload_n 2, 1), (18, .if_icmp .ge 25, 3), (21, .bipush 10, 2), (23, .iload_n 3, 1), (24, .imul, 1), (25, .aload_n 0, 1),
  (26, .getfield 11, 3), (29, .iload 4, 2), (31, .iaload, 1), (32, .iadd, 1), (33, .bipush 48, 2), (35, .isub, 1),
  (36, .istore_n 3, 1), (37, .iinc 4 1, 3), (40, .goto (-25), 3), (43, .bipush 100, 2), (45, .iload_n 3, 1), (46, .iadd, 1),
  (47, .ireturn, 1)])
set_option maxRecDepth 100000 in
theorem K_Ta_numberOf : mOk M_Ta_numberOf := by decide +kernel
def M_Bk_clear : zM := ("WindBrides$Book", ⟨"WindBrides$Book", "clear", "()V"⟩, prog_2_method_3_code, 1, none, [
  (0, .aload_n 0, 1), (1, .iconst 0, 1), (2, .putfield 26, 3), (5, .aload_n 0, 1), (6, .iconst 0, 1), (7, .putfield 30, 3),
  (10, .return_, 1)])
set_option maxRecDepth 100000 in
theorem K_Bk_clear : mOk M_Bk_clear := by decide +kernel
def M_Ta_readRule : zM := ("WindBrides$Tape", ⟨"WindBrides$Tape", "readRule", "(LWindBrides$Book;)Z"⟩, prog_11_method_14_code, 4, (some .boolean), [
  (0, .aload_n 0, 1), (1, .getfield 15, 3), (4, .aload_n 0, 1), (5, .getfield 28, 3), (8, .iaload, 1), (9, .istore_n 2, 1),
  (10, .iload_n 2, 1), (11, .iconst 0, 1), (12, .iconst 5, 1), (13, .invokestatic 76, 3), (16, .ifCond .ne 5, 3), (19, .iconst 0, 1),
  (20, .ireturn, 1), (21, .aload_n 0, 1), (22, .dup, 1), (23, .getfield 28, 3), (26, .iconst 1, 1), (27, .iadd, 1),
  (28, .putfield 28, 3), (31, .aload_n 0, 1), (32, .bipush 9, 2), (34, .invokevirtual 79, 3), (37, .ifCond .eq 14, 3), (40, .aload_n 0, 1),
  (41, .aload_n 1, 1), (42, .iconst 0, 1), (43, .invokevirtual 82, 3), (46, .ifCond .ne 5, 3), (49, .iconst 0, 1), (50, .ireturn, 1),
  (51, .aload_n 0, 1), (52, .getfield 15, 3), (55, .aload_n 0, 1), (56, .getfield 28, 3), (59, .iaload, 1), (60, .istore_n 3, 1),
  (61, .iload_n 3, 1), (62, .bipush 6, 2), (64, .bipush 8, 2), (66, .invokestatic 76, 3), (69, .ifCond .ne 5, 3), (72, .iconst 0, 1),
  (73, .ireturn, 1), (74, .aload_n 0, 1), (75, .dup, 1), (76, .getfield 28, 3), (79, .iconst 1, 1), (80, .iadd, 1),
  (81, .putfield 28, 3), (84, .aload_n 1, 1), (85, .iload_n 2, 1), (86, .iload_n 3, 1), (87, .bipush 6, 2), (89, .isub, 1),
  (90, .invokevirtual 86, 3), (93, .aload_n 0, 1), (94, .bipush 18, 2), (96, .invokevirtual 79, 3), (99, .ireturn, 1)])
set_option maxRecDepth 100000 in
theorem K_Ta_readRule : mOk M_Ta_readRule := by decide +kernel
def M_Ta_reads : zM := ("WindBrides$Tape", ⟨"WindBrides$Tape", "reads", "(I)Z"⟩, prog_11_method_13_code, 3, (some .boolean), [
  (0, .aload_n 0, 1), (1, .getfield 15, 3), (4, .aload_n 0, 1), (5, .getfield 28, 3), (8, .iaload, 1), (9, .iload_n 1, 1),
  (10, .if_icmp .ne 7, 3), (13, .iconst 1, 1), (14, .goto 4, 3), (17, .iconst 0, 1), (18, .istore_n 2, 1), (19, .aload_n 0, 1),
  (20, .dup, 1), (21, .getfield 28, 3), (24, .iload_n 2, 1), (25, .ifCond .eq 7, 3), (28, .iconst 1, 1), (29, .goto 4, 3),
  (32, .iconst 0, 1), (33, .iadd, 1), (34, .putfield 28, 3), (37, .iload_n 2, 1), (38, .ireturn, 1)])
set_option maxRecDepth 100000 in
theorem K_Ta_reads : mOk M_Ta_reads := by decide +kernel
def M_Ta_readCondition : zM := ("WindBrides$Tape", ⟨"WindBrides$Tape", "readCondition", "(LWindBrides$Book;I)Z"⟩, prog_11_method_15_code, 6, (some .boolean), [
  (0, .iconst 0, 1), (1, .istore_n 3, 1), (2, .iconst 0, 1), (3, .istore 4, 2), (5, .iconst 0, 1), (6, .istore 5, 2),
  (8, .iload 5, 2), (10, .sipush 200, 3), (13, .if_icmp .ge 70, 3), (16, .aload_n 0, 1), (17, .aload_n 1, 1), (18, .iload_n 2, 1),
  (19, .invokevirtual 90, 3), (22, .ifCond .ne 5, 3), (25, .iconst 0, 1), (26, .ireturn, 1), (27, .iload_n 3, 1), (28, .ifCond .eq 9, 3),
  (31, .aload_n 1, 1), (32, .bipush 11, 2), (34, .invokevirtual 93, 3), (37, .aload_n 0, 1), (38, .bipush 11, 2), (40, .invokevirtual 79, 3),
  (43, .istore_n 3, 1), (44, .iload_n 3, 1), (45, .ifCond .eq 6, 3), (48, .goto 29, 3), (51, .iload 4, 2), (53, .ifCond .eq 9, 3),
  (56, .aload_n 1, 1), (57, .bipush 10, 2), (59, .invokevirtual 93, 3), (62, .aload_n 0, 1), (63, .bipush 10, 2), (65, .invokevirtual 79, 3),
  (68, .istore 4, 2), (70, .iload 4, 2), (72, .ifCond .ne 5, 3), (75, .iconst 1, 1), (76, .ireturn, 1), (77, .iinc 5 1, 3),
  (80, .goto (-72), 3), (83, .iconst 0, 1), (84, .ireturn, 1)])
set_option maxRecDepth 100000 in
theorem K_Ta_readCondition : mOk M_Ta_readCondition := by decide +kernel
def M_Ta_readOne : zM := ("WindBrides$Tape", ⟨"WindBrides$Tape", "readOne", "(LWindBrides$Book;I)Z"⟩, prog_11_method_16_code, 5, (some .boolean), [
  (0, .iconst 0, 1), (1, .istore_n 3, 1), (2, .aload_n 0, 1), (3, .getfield 28, 3), (6, .sipush 200, 3), (9, .if_icmp .ge 40, 3),
  (12, .aload_n 0, 1), (13, .getfield 15, 3), (16, .aload_n 0, 1), (17, .getfield 28, 3), (20, .iaload, 1), (21, .bipush 12, 2),
  (23, .if_icmp .ne 26, 3), (26, .iload_n 3, 1), (27, .ifCond .ne 7, 3), (30, .iconst 1, 1), (31, .goto 4, 3), (34, .iconst 0, 1),
  (35, .istore_n 3, 1), (36, .aload_n 0, 1), (37, .dup, 1), (38, .getfield 28, 3), (41, .iconst 1, 1), (42, .iadd, 1),
  (43, .putfield 28, 3), (46, .goto (-44), 3), (49, .aload_n 0, 1), (50, .getfield 15, 3), (53, .aload_n 0, 1), (54, .getfield 28, 3),
  (57, .iaload, 1), (58, .bipush 19, 2), (60, .if_icmp .ne 48, 3), (63, .iload_n 2, 1), (64, .iconst 3, 1), (65, .if_icmp .ge 43, 3),
  (68, .aload_n 0, 1), (69, .dup, 1), (70, .getfield 28, 3), (73, .iconst 1, 1), (74, .iadd, 1), (75, .putfield 28, 3),
  (78, .aload_n 0, 1), (79, .aload_n 1, 1), (80, .iload_n 2, 1), (81, .iconst 1, 1), (82, .iadd, 1), (83, .invokevirtual 82, 3),
  (86, .ifCond .eq 16, 3), (89, .aload_n 0, 1), (90, .bipush 20, 2), (92, .invokevirtual 79, 3), (95, .ifCond .eq 7, 3), (98, .iconst 1, 1),
  (99, .goto 4, 3), (102, .iconst 0, 1), (103, .istore 4, 2), (105, .goto 10, 3), (108, .aload_n 0, 1), (109, .aload_n 1, 1),
  (110, .invokevirtual 97, 3), (113, .istore 4, 2), (115, .iload 4, 2), (117, .ifCond .eq 13, 3), (120, .iload_n 3, 1), (121, .ifCond .eq 9, 3),
  (124, .aload_n 1, 1), (125, .bipush 12, 2), (127, .invokevirtual 93, 3), (130, .iload 4, 2), (132, .ireturn, 1)])
set_option maxRecDepth 100000 in
theorem K_Ta_readOne : mOk M_Ta_readOne := by decide +kernel
def M_Ta_readComparison : zM := ("WindBrides$Tape", ⟨"WindBrides$Tape", "readComparison", "(LWindBrides$Book;)Z"⟩, prog_11_method_18_code, 5, (some .boolean), [
  (0, .aload_n 0, 1), (1, .getfield 15, 3), (4, .aload_n 0, 1), (5, .getfield 28, 3), (8, .iaload, 1), (9, .istore_n 2, 1),
  (10, .iload_n 2, 1), (11, .invokestatic 100, 3), (14, .ifCond .ne 5, 3), (17, .iconst 0, 1), (18, .ireturn, 1), (19, .aload_n 0, 1),
  (20, .dup, 1), (21, .getfield 28, 3), (24, .iconst 1, 1), (25, .iadd, 1), (26, .putfield 28, 3), (29, .aload_n 0, 1),
  (30, .getfield 15, 3), (33, .aload_n 0, 1), (34, .getfield 28, 3), (37, .iaload, 1), (38, .istore_n 3, 1), (39, .iload_n 3, 1),
  (40, .bipush 21, 2), (42, .bipush 23, 2), (44, .invokestatic 76, 3), (47, .ifCond .ne 5, 3), (50, .iconst 0, 1), (51, .ireturn, 1),
  (52, .aload_n 0, 1), (53, .dup, 1), (54, .getfield 28, 3), (57, .iconst 1, 1), (58, .iadd, 1), (59, .putfield 28, 3),
  (62, .aload_n 0, 1), (63, .getfield 15, 3), (66, .aload_n 0, 1), (67, .getfield 28, 3), (70, .iaload, 1), (71, .istore 4, 2),
  (73, .iload 4, 2), (75, .invokestatic 100, 3), (78, .ifCond .ne 5, 3), (81, .iconst 0, 1), (82, .ireturn, 1), (83, .aload_n 0, 1),
  (84, .dup, 1), (85, .getfield 28, 3), (88, .iconst 1, 1), (89, .iadd, 1), (90, .putfield 28, 3), (93, .aload_n 1, 1),
  (94, .iload_n 3, 1), (95, .invokevirtual 93, 3), (98, .aload_n 1, 1), (99, .iload_n 2, 1), (100, .invokevirtual 93, 3), (103, .aload_n 1, 1),
  (104, .iload 4, 2), (106, .invokevirtual 93, 3), (109, .iconst 1, 1), (110, .ireturn, 1)])
set_option maxRecDepth 100000 in
theorem K_Ta_readComparison : mOk M_Ta_readComparison := by decide +kernel
def M_Ta_isValue : zM := ("WindBrides$Tape", ⟨"WindBrides$Tape", "isValue", "(I)Z"⟩, prog_11_method_17_code, 1, (some .boolean), [
  (0, .iload_n 0, 1), (1, .bipush 100, 2), (3, .if_icmp .ge 14, 3), (6, .iload_n 0, 1), (7, .bipush 13, 2), (9, .bipush 17, 2),
  (11, .invokestatic 76, 3), (14, .ifCond .eq 7, 3), (17, .iconst 1, 1), (18, .goto 4, 3), (21, .iconst 0, 1), (22, .ireturn, 1)])
set_option maxRecDepth 100000 in
theorem K_Ta_isValue : mOk M_Ta_isValue := by decide +kernel
def M_Bk_writes : zM := ("WindBrides$Book", ⟨"WindBrides$Book", "writes", "(I)V"⟩, prog_2_method_4_code, 2, none, [
  (0, .aload_n 0, 1), (1, .getfield 30, 3), (4, .aload_n 0, 1), (5, .getfield 23, 3), (8, .arraylength, 1), (9, .if_icmp .ge 23, 3),
  (12, .aload_n 0, 1), (13, .getfield 23, 3), (16, .aload_n 0, 1), (17, .getfield 30, 3), (20, .iload_n 1, 1), (21, .iastore, 1),
  (22, .aload_n 0, 1), (23, .dup, 1), (24, .getfield 30, 3), (27, .iconst 1, 1), (28, .iadd, 1), (29, .putfield 30, 3),
  (32, .return_, 1)])
set_option maxRecDepth 100000 in
theorem K_Bk_writes : mOk M_Bk_writes := by decide +kernel
def M_Bk_addRule : zM := ("WindBrides$Book", ⟨"WindBrides$Book", "addRule", "(II)V"⟩, prog_2_method_5_code, 3, none, [
  (0, .aload_n 0, 1), (1, .getfield 26, 3), (4, .bipush 8, 2), (6, .if_icmp .ge 46, 3), (9, .aload_n 0, 1), (10, .getfield 11, 3),
  (13, .aload_n 0, 1), (14, .getfield 26, 3), (17, .iload_n 1, 1), (18, .iastore, 1), (19, .aload_n 0, 1), (20, .getfield 15, 3),
  (23, .aload_n 0, 1), (24, .getfield 26, 3), (27, .iload_n 2, 1), (28, .iastore, 1), (29, .aload_n 0, 1), (30, .dup, 1),
  (31, .getfield 26, 3), (34, .iconst 1, 1), (35, .iadd, 1), (36, .putfield 26, 3), (39, .aload_n 0, 1), (40, .getfield 18, 3),
  (43, .aload_n 0, 1), (44, .getfield 26, 3), (47, .aload_n 0, 1), (48, .getfield 30, 3), (51, .iastore, 1), (52, .return_, 1)])
set_option maxRecDepth 100000 in
theorem K_Bk_addRule : mOk M_Bk_addRule := by decide +kernel
def M_Bk_copyFrom : zM := ("WindBrides$Book", ⟨"WindBrides$Book", "copyFrom", "(LWindBrides$Book;)V"⟩, prog_2_method_2_code, 2, none, [
  (0, .aload_n 0, 1), (1, .aload_n 1, 1), (2, .getfield 26, 3), (5, .putfield 26, 3), (8, .aload_n 0, 1), (9, .aload_n 1, 1),
  (10, .getfield 30, 3), (13, .putfield 30, 3), (16, .aload_n 1, 1), (17, .getfield 11, 3), (20, .iconst 0, 1), (21, .aload_n 0, 1),
  (22, .getfield 11, 3), (25, .iconst 0, 1), (26, .bipush 8, 2), (28, .invokestatic 33, 3), (31, .aload_n 1, 1), (32, .getfield 15, 3),
  (35, .iconst 0, 1), (36, .aload_n 0, 1), (37, .getfield 15, 3), (40, .iconst 0, 1), (41, .bipush 8, 2), (43, .invokestatic 33, 3),
  (46, .aload_n 1, 1), (47, .getfield 18, 3), (50, .iconst 0, 1), (51, .aload_n 0, 1), (52, .getfield 18, 3), (55, .iconst 0, 1),
  (56, .bipush 9, 2), (58, .invokestatic 33, 3), (61, .aload_n 1, 1), (62, .getfield 23, 3), (65, .iconst 0, 1), (66, .aload_n 0, 1),
  (67, .getfield 23, 3), (70, .iconst 0, 1), (71, .aload_n 1, 1), (72, .getfield 30, 3), (75, .invokestatic 33, 3), (78, .return_, 1)])
set_option maxRecDepth 100000 in
theorem K_Bk_copyFrom : mOk M_Bk_copyFrom := by decide +kernel
def M_Cr_passes : zM := ("WindBrides$Course", ⟨"WindBrides$Course", "passes", "(LWindBrides$Coast;I)I"⟩, prog_6_method_8_code, 7, (some .int), [
  (0, .iconst 0, 1), (1, .istore_n 3, 1), (2, .iconst 0, 1), (3, .istore 4, 2), (5, .aload_n 0, 1), (6, .iconst 0, 1),
  (7, .putfield 27, 3), (10, .iconst 0, 1), (11, .istore 5, 2), (13, .iload 5, 2), (15, .aload_n 1, 1), (16, .getfield 41, 3),
  (19, .if_icmp .ge 152, 3), (22, .iload 5, 2), (24, .iconst 1, 1), (25, .iadd, 1), (26, .iload_n 2, 1), (27, .if_icmp .ne 6, 3),
  (30, .goto 135, 3), (33, .aload_n 1, 1), (34, .aload_n 0, 1), (35, .getfield 9, 3), (38, .iload 5, 2), (40, .iaload, 1),
  (41, .aload_n 0, 1), (42, .getfield 23, 3), (45, .invokevirtual 60, 3), (48, .ifCond .ne 17, 3), (51, .aload_n 0, 1), (52, .aload_n 1, 1),
  (53, .iload 5, 2), (55, .aload_n 0, 1), (56, .aload_n 1, 1), (57, .iload 5, 2), (59, .invokevirtual 64, 3), (62, .invokevirtual 68, 3),
  (65, .aload_n 0, 1), (66, .getfield 9, 3), (69, .iload 5, 2), (71, .iaload, 1), (72, .istore 6, 2), (74, .aload_n 1, 1),
  (75, .iload 6, 2), (77, .aload_n 0, 1), (78, .getfield 23, 3), (81, .invokevirtual 60, 3), (84, .ifCond .eq 67, 3), (87, .iload 4, 2),
  (89, .iload 6, 2), (91, .ishr, 1), (92, .iconst 1, 1), (93, .iand, 1), (94, .ifCond .ne 57, 3), (97, .iload 4, 2),
  (99, .iconst 1, 1), (100, .iload 6, 2), (102, .ishl, 1), (103, .ior, 1), (104, .istore 4, 2), (106, .aload_n 0, 1),
  (107, .dup, 1), (108, .getfield 27, 3), (111, .iconst 1, 1), (112, .iload 5, 2), (114, .ishl, 1), (115, .ior, 1),
  (116, .putfield 27, 3), (119, .aload_n 0, 1), (120, .getfield 15, 3), (123, .iload 5, 2), (125, .aload_n 1, 1), (126, .getfield 36, 3),
  (129, .iload 5, 2), (131, .iaload, 1), (132, .iastore, 1), (133, .iload_n 3, 1), (134, .aload_n 1, 1), (135, .iload 5, 2),
  (137, .iload 6, 2), (139, .aload_n 0, 1), (140, .getfield 23, 3), (143, .invokevirtual 72, 3), (146, .iadd, 1), (147, .istore_n 3, 1),
  (148, .goto 17, 3), (151, .iload 6, 2), (153, .bipush 6, 2), (155, .if_icmp .eq 10, 3), (158, .aload_n 0, 1), (159, .aload_n 1, 1),
  (160, .iload 5, 2), (162, .invokevirtual 76, 3), (165, .iinc 5 1, 3), (168, .goto (-155), 3), (171, .aload_n 0, 1), (172, .dup, 1),
  (173, .getfield 23, 3), (176, .iconst 1, 1), (177, .iadd, 1), (178, .putfield 23, 3), (181, .iload_n 3, 1), (182, .ireturn, 1)])
set_option maxRecDepth 100000 in
theorem K_Cr_passes : mOk M_Cr_passes := by decide +kernel
def M_Cr_meetsCalm : zM := ("WindBrides$Course", ⟨"WindBrides$Course", "meetsCalm", "(LWindBrides$Coast;II)V"⟩, prog_6_method_10_code, 5, none, [
  (0, .iload_n 3, 1), (1, .iconst 2, 1), (2, .if_icmp .ne 14, 3), (5, .aload_n 0, 1), (6, .aload_n 1, 1), (7, .iload_n 2, 1),
  (8, .bipush 6, 2), (10, .invokevirtual 80, 3), (13, .goto 31, 3), (16, .iload_n 3, 1), (17, .iconst 1, 1), (18, .if_icmp .ne 26, 3),
  (21, .aload_n 0, 1), (22, .aload_n 1, 1), (23, .iload_n 2, 1), (24, .invokevirtual 83, 3), (27, .istore 4, 2), (29, .iload 4, 2),
  (31, .bipush 6, 2), (33, .if_icmp .eq 11, 3), (36, .aload_n 0, 1), (37, .aload_n 1, 1), (38, .iload_n 2, 1), (39, .iload 4, 2),
  (41, .invokevirtual 80, 3), (44, .return_, 1)])
set_option maxRecDepth 100000 in
theorem K_Cr_meetsCalm : mOk M_Cr_meetsCalm := by decide +kernel
def M_Cr_freeWindFor : zM := ("WindBrides$Course", ⟨"WindBrides$Course", "freeWindFor", "(LWindBrides$Coast;I)I"⟩, prog_6_method_11_code, 8, (some .int), [
  (0, .bipush 6, 2), (2, .istore_n 3, 1), (3, .iconst (-1), 1), (4, .istore 4, 2), (6, .aload_n 0, 1), (7, .aload_n 1, 1),
  (8, .invokevirtual 86, 3), (11, .istore 5, 2), (13, .iconst 0, 1), (14, .istore 6, 2), (16, .iload 6, 2), (18, .aload_n 1, 1),
  (19, .getfield 90, 3), (22, .if_icmp .ge 59, 3), (25, .aload_n 1, 1), (26, .iload 6, 2), (28, .aload_n 0, 1), (29, .getfield 23, 3),
  (32, .invokevirtual 60, 3), (35, .ifCond .eq 40, 3), (38, .iload 5, 2), (40, .iload 6, 2), (42, .ishr, 1), (43, .iconst 1, 1),
  (44, .iand, 1), (45, .ifCond .ne 30, 3), (48, .aload_n 1, 1), (49, .iload_n 2, 1), (50, .iload 6, 2), (52, .aload_n 0, 1),
  (53, .getfield 23, 3), (56, .invokevirtual 72, 3), (59, .istore 7, 2), (61, .iload 7, 2), (63, .iload 4, 2), (65, .if_icmp .le 10, 3),
  (68, .iload 7, 2), (70, .istore 4, 2), (72, .iload 6, 2), (74, .istore_n 3, 1), (75, .iinc 6 1, 3), (78, .goto (-62), 3),
  (81, .iload_n 3, 1), (82, .ireturn, 1)])
set_option maxRecDepth 100000 in
theorem K_Cr_freeWindFor : mOk M_Cr_freeWindFor := by decide +kernel
def M_Cr_windsWithBrides : zM := ("WindBrides$Course", ⟨"WindBrides$Course", "windsWithBrides", "(LWindBrides$Coast;)I"⟩, prog_6_method_6_code, 4, (some .int), [
  (0, .iconst 0, 1), (1, .istore_n 2, 1), (2, .iconst 0, 1), (3, .istore_n 3, 1), (4, .iload_n 3, 1), (5, .aload_n 1, 1),
  (6, .getfield 41, 3), (9, .if_icmp .ge 20, 3), (12, .iload_n 2, 1), (13, .iconst 1, 1), (14, .aload_n 0, 1), (15, .getfield 9, 3),
  (18, .iload_n 3, 1), (19, .iaload, 1), (20, .ishl, 1), (21, .ior, 1), (22, .istore_n 2, 1), (23, .iinc 3 1, 3),
  (26, .goto (-22), 3), (29, .iload_n 2, 1), (30, .ireturn, 1)])
set_option maxRecDepth 100000 in
theorem K_Cr_windsWithBrides : mOk M_Cr_windsWithBrides := by decide +kernel
def M_Cr_wearsOut : zM := ("WindBrides$Course", ⟨"WindBrides$Course", "wearsOut", "(LWindBrides$Coast;I)V"⟩, prog_6_method_9_code, 3, none, [
  (0, .aload_n 0, 1), (1, .getfield 15, 3), (4, .iload_n 2, 1), (5, .dup2, 1), (6, .iaload, 1), (7, .iconst 1, 1),
  (8, .isub, 1), (9, .iastore, 1), (10, .aload_n 0, 1), (11, .getfield 15, 3), (14, .iload_n 2, 1), (15, .iaload, 1),
  (16, .ifCond .gt 11, 3), (19, .aload_n 0, 1), (20, .aload_n 1, 1), (21, .iload_n 2, 1), (22, .bipush 6, 2), (24, .invokevirtual 80, 3),
  (27, .return_, 1)])
set_option maxRecDepth 100000 in
theorem K_Cr_wearsOut : mOk M_Cr_wearsOut := by decide +kernel
def M_Cr_copyFrom : zM := ("WindBrides$Course", ⟨"WindBrides$Course", "copyFrom", "(LWindBrides$Course;)V"⟩, prog_6_method_2_code, 2, none, [
  (0, .aload_n 0, 1), (1, .aload_n 1, 1), (2, .getfield 23, 3), (5, .putfield 23, 3), (8, .aload_n 0, 1), (9, .aload_n 1, 1),
  (10, .getfield 27, 3), (13, .putfield 27, 3), (16, .aload_n 1, 1), (17, .getfield 9, 3), (20, .iconst 0, 1), (21, .aload_n 0, 1),
  (22, .getfield 9, 3), (25, .iconst 0, 1), (26, .bipush 6, 2), (28, .invokestatic 30, 3), (31, .aload_n 1, 1), (32, .getfield 15, 3),
  (35, .iconst 0, 1), (36, .aload_n 0, 1), (37, .getfield 15, 3), (40, .iconst 0, 1), (41, .bipush 6, 2), (43, .invokestatic 30, 3),
  (46, .return_, 1)])
set_option maxRecDepth 100000 in
theorem K_Cr_copyFrom : mOk M_Cr_copyFrom := by decide +kernel
def M_Co_pairLeaves : zM := ("WindBrides$Coast", ⟨"WindBrides$Coast", "pairLeaves", "(II)Z"⟩, prog_5_method_15_code, 4, (some .boolean), [
  (0, .aload_n 0, 1), (1, .getfield 43, 3), (4, .getfield 109, 3), (7, .iload_n 1, 1), (8, .iaload, 1), (9, .iload_n 2, 1),
  (10, .if_icmp .eq 21, 3), (13, .aload_n 0, 1), (14, .iload_n 1, 1), (15, .iload_n 2, 1), (16, .aload_n 0, 1), (17, .getfield 43, 3),
  (20, .getfield 109, 3), (23, .iload_n 1, 1), (24, .iaload, 1), (25, .invokevirtual 112, 3), (28, .ifCond .ne 5, 3), (31, .iconst 0, 1),
  (32, .ireturn, 1), (33, .iconst 0, 1), (34, .istore_n 3, 1), (35, .iload_n 3, 1), (36, .aload_n 0, 1), (37, .getfield 60, 3),
  (40, .if_icmp .ge 34, 3), (43, .aload_n 0, 1), (44, .getfield 43, 3), (47, .getfield 109, 3), (50, .iload_n 3, 1), (51, .iaload, 1),
  (52, .iload_n 2, 1), (53, .if_icmp .ne 15, 3), (56, .aload_n 0, 1), (57, .iload_n 2, 1), (58, .iload_n 1, 1), (59, .iload_n 3, 1),
  (60, .invokevirtual 116, 3), (63, .ifCond .ne 5, 3), (66, .iconst 0, 1), (67, .ireturn, 1), (68, .iinc 3 1, 3), (71, .goto (-36), 3),
  (74, .iconst 1, 1), (75, .ireturn, 1)])
set_option maxRecDepth 100000 in
theorem K_Co_pairLeaves : mOk M_Co_pairLeaves := by decide +kernel
def M_Co_girlLikes : zM := ("WindBrides$Coast", ⟨"WindBrides$Coast", "girlLikes", "(III)Z"⟩, prog_5_method_13_code, 7, (some .boolean), [
  (0, .iload_n 3, 1), (1, .bipush 6, 2), (3, .if_icmp .ne 5, 3), (6, .iconst 1, 1), (7, .ireturn, 1), (8, .aload_n 0, 1),
  (9, .invokevirtual 101, 3), (12, .istore 4, 2), (14, .aload_n 0, 1), (15, .iload_n 1, 1), (16, .iload_n 2, 1), (17, .iload 4, 2),
  (19, .invokevirtual 105, 3), (22, .istore 5, 2), (24, .aload_n 0, 1), (25, .iload_n 1, 1), (26, .iload_n 3, 1), (27, .iload 4, 2),
  (29, .invokevirtual 105, 3), (32, .istore 6, 2), (34, .iload 5, 2), (36, .iload 6, 2), (38, .if_icmp .gt 15, 3), (41, .iload 5, 2),
  (43, .iload 6, 2), (45, .if_icmp .ne 12, 3), (48, .iload_n 2, 1), (49, .iload_n 3, 1), (50, .if_icmp .ge 7, 3), (53, .iconst 1, 1),
  (54, .goto 4, 3), (57, .iconst 0, 1), (58, .ireturn, 1)])
set_option maxRecDepth 100000 in
theorem K_Co_girlLikes : mOk M_Co_girlLikes := by decide +kernel
def M_Co_heldMonth : zM := ("WindBrides$Coast", ⟨"WindBrides$Coast", "heldMonth", "()I"⟩, prog_5_method_12_code, 1, (some .int), [
  (0, .aload_n 0, 1), (1, .getfield 43, 3), (4, .getfield 85, 3), (7, .bipush 15, 2), (9, .if_icmp .ge 13, 3), (12, .aload_n 0, 1),
  (13, .getfield 43, 3), (16, .getfield 85, 3), (19, .goto 5, 3), (22, .bipush 15, 2), (24, .ireturn, 1)])
set_option maxRecDepth 100000 in
theorem K_Co_heldMonth : mOk M_Co_heldMonth := by decide +kernel
def M_Co_windLikes : zM := ("WindBrides$Coast", ⟨"WindBrides$Coast", "windLikes", "(III)Z"⟩, prog_5_method_14_code, 6, (some .boolean), [
  (0, .aload_n 0, 1), (1, .getfield 21, 3), (4, .iload_n 1, 1), (5, .iaload, 1), (6, .aload_n 0, 1), (7, .getfield 15, 3),
  (10, .iload_n 2, 1), (11, .iaload, 1), (12, .invokestatic 92, 3), (15, .istore 4, 2), (17, .aload_n 0, 1), (18, .getfield 21, 3),
  (21, .iload_n 1, 1), (22, .iaload, 1), (23, .aload_n 0, 1), (24, .getfield 15, 3), (27, .iload_n 3, 1), (28, .iaload, 1),
  (29, .invokestatic 92, 3), (32, .istore 5, 2), (34, .iload 4, 2), (36, .iload 5, 2), (38, .if_icmp .lt 15, 3), (41, .iload 4, 2),
  (43, .iload 5, 2), (45, .if_icmp .ne 12, 3), (48, .iload_n 2, 1), (49, .iload_n 3, 1), (50, .if_icmp .ge 7, 3), (53, .iconst 1, 1),
  (54, .goto 4, 3), (57, .iconst 0, 1), (58, .ireturn, 1)])
set_option maxRecDepth 100000 in
theorem K_Co_windLikes : mOk M_Co_windLikes := by decide +kernel
def M_Co_keptWind : zM := ("WindBrides$Coast", ⟨"WindBrides$Coast", "keptWind", "(I)I"⟩, prog_5_method_16_code, 4, (some .int), [
  (0, .iconst 0, 1), (1, .istore_n 2, 1), (2, .iload_n 2, 1), (3, .aload_n 0, 1), (4, .getfield 60, 3), (7, .if_icmp .ge 22, 3),
  (10, .aload_n 0, 1), (11, .getfield 57, 3), (14, .iload_n 2, 1), (15, .aload_n 0, 1), (16, .iload_n 2, 1), (17, .bipush 6, 2),
  (19, .invokevirtual 119, 3), (22, .iastore, 1), (23, .iinc 2 1, 3), (26, .goto (-24), 3), (29, .iconst 0, 1), (30, .istore_n 2, 1),
  (31, .iload_n 2, 1), (32, .bipush 36, 2), (34, .if_icmp .gt 38, 3), (37, .aload_n 0, 1), (38, .invokevirtual 122, 3), (41, .istore_n 3, 1),
  (42, .iload_n 3, 1), (43, .ifCond .ge 6, 3), (46, .goto 26, 3), (49, .aload_n 0, 1), (50, .getfield 57, 3), (53, .iload_n 3, 1),
  (54, .aload_n 0, 1), (55, .iload_n 3, 1), (56, .aload_n 0, 1), (57, .getfield 57, 3), (60, .iload_n 3, 1), (61, .iaload, 1),
  (62, .invokevirtual 119, 3), (65, .iastore, 1), (66, .iinc 2 1, 3), (69, .goto (-38), 3), (72, .aload_n 0, 1), (73, .getfield 57, 3),
  (76, .iload_n 1, 1), (77, .iaload, 1), (78, .ireturn, 1)])
set_option maxRecDepth 100000 in
theorem K_Co_keptWind : mOk M_Co_keptWind := by decide +kernel
def M_Co_nextLiked : zM := ("WindBrides$Coast", ⟨"WindBrides$Coast", "nextLiked", "(II)I"⟩, prog_5_method_17_code, 6, (some .int), [
  (0, .bipush 6, 2), (2, .istore_n 3, 1), (3, .iconst 0, 1), (4, .istore 4, 2), (6, .iload 4, 2), (8, .aload_n 0, 1),
  (9, .getfield 69, 3), (12, .if_icmp .ge 58, 3), (15, .iload_n 2, 1), (16, .bipush 6, 2), (18, .if_icmp .eq 20, 3), (21, .iload 4, 2),
  (23, .iload_n 2, 1), (24, .if_icmp .eq 18, 3), (27, .aload_n 0, 1), (28, .iload_n 1, 1), (29, .iload_n 2, 1), (30, .iload 4, 2),
  (32, .invokevirtual 112, 3), (35, .ifCond .eq 7, 3), (38, .iconst 1, 1), (39, .goto 4, 3), (42, .iconst 0, 1), (43, .istore 5, 2),
  (45, .iload 5, 2), (47, .ifCond .eq 17, 3), (50, .aload_n 0, 1), (51, .iload_n 1, 1), (52, .iload 4, 2), (54, .iload_n 3, 1),
  (55, .invokevirtual 112, 3), (58, .ifCond .eq 6, 3), (61, .iload 4, 2), (63, .istore_n 3, 1), (64, .iinc 4 1, 3), (67, .goto (-61), 3),
  (70, .iload_n 3, 1), (71, .ireturn, 1)])
set_option maxRecDepth 100000 in
theorem K_Co_nextLiked : mOk M_Co_nextLiked := by decide +kernel
def M_Co_refusedGirl : zM := ("WindBrides$Coast", ⟨"WindBrides$Coast", "refusedGirl", "()I"⟩, prog_5_method_18_code, 3, (some .int), [
  (0, .iconst 0, 1), (1, .istore_n 1, 1), (2, .iload_n 1, 1), (3, .aload_n 0, 1), (4, .getfield 60, 3), (7, .if_icmp .ge 74, 3),
  (10, .iload_n 1, 1), (11, .iconst 1, 1), (12, .iadd, 1), (13, .istore_n 2, 1), (14, .iload_n 2, 1), (15, .aload_n 0, 1),
  (16, .getfield 60, 3), (19, .if_icmp .ge 56, 3), (22, .aload_n 0, 1), (23, .getfield 57, 3), (26, .iload_n 1, 1), (27, .iaload, 1),
  (28, .bipush 6, 2), (30, .if_icmp .eq 39, 3), (33, .aload_n 0, 1), (34, .getfield 57, 3), (37, .iload_n 1, 1), (38, .iaload, 1),
  (39, .aload_n 0, 1), (40, .getfield 57, 3), (43, .iload_n 2, 1), (44, .iaload, 1), (45, .if_icmp .ne 24, 3), (48, .aload_n 0, 1),
  (49, .aload_n 0, 1), (50, .getfield 57, 3), (53, .iload_n 1, 1), (54, .iaload, 1), (55, .iload_n 1, 1), (56, .iload_n 2, 1),
  (57, .invokevirtual 116, 3), (60, .ifCond .eq 7, 3), (63, .iload_n 2, 1), (64, .goto 4, 3), (67, .iload_n 1, 1), (68, .ireturn, 1),
  (69, .iinc 2 1, 3), (72, .goto (-58), 3), (75, .iinc 1 1, 3), (78, .goto (-76), 3), (81, .iconst (-1), 1), (82, .ireturn, 1)])
set_option maxRecDepth 100000 in
theorem K_Co_refusedGirl : mOk M_Co_refusedGirl := by decide +kernel
def M_Co_ringOf : zM := ("WindBrides$Coast", ⟨"WindBrides$Coast", "ringOf", "(I)I"⟩, prog_5_method_20_code, 6, (some .int), [
  (0, .iconst 1, 1), (1, .iload_n 1, 1), (2, .ishl, 1), (3, .istore_n 2, 1), (4, .iconst 1, 1), (5, .istore_n 3, 1),
  (6, .iload_n 3, 1), (7, .aload_n 0, 1), (8, .getfield 60, 3), (11, .if_icmp .gt 68, 3), (14, .iconst 0, 1), (15, .istore 4, 2),
  (17, .iconst 0, 1), (18, .istore 5, 2), (20, .iload 5, 2), (22, .aload_n 0, 1), (23, .getfield 60, 3), (26, .if_icmp .ge 33, 3),
  (29, .iload 4, 2), (31, .iload_n 2, 1), (32, .iload 5, 2), (34, .ishr, 1), (35, .iconst 1, 1), (36, .iand, 1),
  (37, .ifCond .eq 12, 3), (40, .aload_n 0, 1), (41, .iload 5, 2), (43, .invokevirtual 125, 3), (46, .goto 4, 3), (49, .iconst 0, 1),
  (50, .ior, 1), (51, .istore 4, 2), (53, .iinc 5 1, 3), (56, .goto (-36), 3), (59, .iload 4, 2), (61, .iload_n 1, 1),
  (62, .ishr, 1), (63, .iconst 1, 1), (64, .iand, 1), (65, .ifCond .eq 5, 3), (68, .iload_n 3, 1), (69, .ireturn, 1),
  (70, .iload 4, 2), (72, .istore_n 2, 1), (73, .iinc 3 1, 3), (76, .goto (-70), 3), (79, .bipush (-3), 2), (81, .ireturn, 1)])
set_option maxRecDepth 100000 in
theorem K_Co_ringOf : mOk M_Co_ringOf := by decide +kernel
def M_Co_envied : zM := ("WindBrides$Coast", ⟨"WindBrides$Coast", "envied", "(I)I"⟩, prog_5_method_19_code, 7, (some .int), [
  (0, .iconst 0, 1), (1, .istore_n 2, 1), (2, .aload_n 0, 1), (3, .invokevirtual 101, 3), (6, .istore_n 3, 1), (7, .aload_n 0, 1),
  (8, .getfield 43, 3), (11, .getfield 109, 3), (14, .iload_n 1, 1), (15, .iaload, 1), (16, .bipush 6, 2), (18, .if_icmp .ne 5, 3),
  (21, .iconst 0, 1), (22, .ireturn, 1), (23, .aload_n 0, 1), (24, .iload_n 1, 1), (25, .aload_n 0, 1), (26, .getfield 43, 3),
  (29, .getfield 109, 3), (32, .iload_n 1, 1), (33, .iaload, 1), (34, .iload_n 3, 1), (35, .invokevirtual 105, 3), (38, .istore 4, 2),
  (40, .iconst 0, 1), (41, .istore 5, 2), (43, .iload 5, 2), (45, .aload_n 0, 1), (46, .getfield 60, 3), (49, .if_icmp .ge 48, 3),
  (52, .aload_n 0, 1), (53, .getfield 43, 3), (56, .getfield 109, 3), (59, .iload 5, 2), (61, .iaload, 1), (62, .istore 6, 2),
  (64, .iload 6, 2), (66, .bipush 6, 2), (68, .if_icmp .eq 23, 3), (71, .aload_n 0, 1), (72, .iload_n 1, 1), (73, .iload 6, 2),
  (75, .iload_n 3, 1), (76, .invokevirtual 105, 3), (79, .iload 4, 2), (81, .if_icmp .le 10, 3), (84, .iload_n 2, 1), (85, .iconst 1, 1),
  (86, .iload 5, 2), (88, .ishl, 1), (89, .ior, 1), (90, .istore_n 2, 1), (91, .iinc 5 1, 3), (94, .goto (-51), 3),
  (97, .iload_n 2, 1), (98, .ireturn, 1)])
set_option maxRecDepth 100000 in
theorem K_Co_envied : mOk M_Co_envied := by decide +kernel
def M_Pl_search : zM := ("WindBrides$Plans", ⟨"WindBrides$Plans", "search", "(LWindBrides$Coast;II)V"⟩, prog_9_method_3_code, 4, none, [
  (0, .aload_n 0, 1), (1, .aload_n 1, 1), (2, .iload_n 2, 1), (3, .invokevirtual 52, 3), (6, .aload_n 0, 1), (7, .iload_n 3, 1),
  (8, .putfield 56, 3), (11, .aload_n 0, 1), (12, .iconst (-1), 1), (13, .putfield 59, 3), (16, .aload_n 0, 1), (17, .iconst 5, 1),
  (18, .putfield 62, 3), (21, .aload_n 0, 1), (22, .iconst 0, 1), (23, .putfield 65, 3), (26, .aload_n 0, 1), (27, .iconst 0, 1),
  (28, .iconst 0, 1), (29, .iconst 0, 1), (30, .invokevirtual 68, 3), (33, .return_, 1)])
set_option maxRecDepth 100000 in
theorem K_Pl_search : mOk M_Pl_search := by decide +kernel
def M_Pl_begin : zM := ("WindBrides$Plans", ⟨"WindBrides$Plans", "begin", "(LWindBrides$Coast;I)V"⟩, prog_9_method_2_code, 4, none, [
  (0, .aload_n 0, 1), (1, .aload_n 1, 1), (2, .putfield 28, 3), (5, .aload_n 1, 1), (6, .getfield 32, 3), (9, .aload_n 1, 1),
  (10, .getfield 38, 3), (13, .getfield 42, 3), (16, .isub, 1), (17, .istore_n 3, 1), (18, .aload_n 0, 1), (19, .iload_n 3, 1),
  (20, .iload_n 2, 1), (21, .if_icmp .ge 7, 3), (24, .iload_n 3, 1), (25, .goto 4, 3), (28, .iload_n 2, 1), (29, .putfield 45, 3),
  (32, .aload_n 0, 1), (33, .getfield 23, 3), (36, .iconst 0, 1), (37, .aaload, 1), (38, .aload_n 1, 1), (39, .getfield 38, 3),
  (42, .invokevirtual 48, 3), (45, .return_, 1)])
set_option maxRecDepth 100000 in
theorem K_Pl_begin : mOk M_Pl_begin := by decide +kernel
def M_Pl_tryActs : zM := ("WindBrides$Plans", ⟨"WindBrides$Plans", "tryActs", "(III)V"⟩, prog_9_method_4_code, 6, none, [
  (0, .iload_n 1, 1), (1, .aload_n 0, 1), (2, .getfield 45, 3), (5, .if_icmp .lt 10, 3), (8, .aload_n 0, 1), (9, .iload_n 2, 1),
  (10, .iload_n 3, 1), (11, .invokevirtual 72, 3), (14, .return_, 1), (15, .iconst 0, 1), (16, .istore 4, 2), (18, .iload 4, 2),
  (20, .aload_n 0, 1), (21, .getfield 28, 3), (24, .getfield 76, 3), (27, .if_icmp .gt 76, 3), (30, .aload_n 0, 1), (31, .getfield 18, 3),
  (34, .iload_n 1, 1), (35, .iload 4, 2), (37, .iastore, 1), (38, .aload_n 0, 1), (39, .getfield 23, 3), (42, .iload_n 1, 1),
  (43, .iconst 1, 1), (44, .iadd, 1), (45, .aaload, 1), (46, .aload_n 0, 1), (47, .getfield 23, 3), (50, .iload_n 1, 1),
  (51, .aaload, 1), (52, .invokevirtual 48, 3), (55, .aload_n 0, 1), (56, .getfield 23, 3), (59, .iload_n 1, 1), (60, .iconst 1, 1),
  (61, .iadd, 1), (62, .aaload, 1), (63, .aload_n 0, 1), (64, .getfield 28, 3), (67, .iload 4, 2), (69, .invokevirtual 79, 3),
  (72, .istore 5, 2), (74, .aload_n 0, 1), (75, .iload_n 1, 1), (76, .iconst 1, 1), (77, .iadd, 1), (78, .iload_n 2, 1),
  (79, .iload 5, 2), (81, .iadd, 1), (82, .iload 4, 2), (84, .ifCond .ne 7, 3), (87, .iload_n 3, 1), (88, .goto 6, 3),
  (91, .iload_n 3, 1), (92, .iconst 1, 1), (93, .iadd, 1), (94, .invokevirtual 68, 3), (97, .iinc 4 1, 3), (100, .goto (-82), 3),
  (103, .return_, 1)])
set_option maxRecDepth 100000 in
theorem K_Pl_tryActs : mOk M_Pl_tryActs := by decide +kernel
def M_Pl_weigh : zM := ("WindBrides$Plans", ⟨"WindBrides$Plans", "weigh", "(II)V"⟩, prog_9_method_5_code, 4, none, [
  (0, .iload_n 1, 1), (1, .aload_n 0, 1), (2, .getfield 59, 3), (5, .if_icmp .le 27, 3), (8, .aload_n 0, 1), (9, .iload_n 1, 1),
  (10, .putfield 59, 3), (13, .aload_n 0, 1), (14, .iconst 0, 1), (15, .putfield 83, 3), (18, .aload_n 0, 1), (19, .getfield 18, 3),
  (22, .iconst 0, 1), (23, .aload_n 0, 1), (24, .getfield 9, 3), (27, .iconst 0, 1), (28, .iconst 4, 1), (29, .invokestatic 86, 3),
  (32, .aload_n 0, 1), (33, .dup, 1), (34, .getfield 83, 3), (37, .iload_n 1, 1), (38, .aload_n 0, 1), (39, .getfield 59, 3),
  (42, .if_icmp .ne 7, 3), (45, .iconst 1, 1), (46, .goto 4, 3), (49, .iconst 0, 1), (50, .iadd, 1), (51, .putfield 83, 3),
  (54, .aload_n 0, 1), (55, .getfield 23, 3), (58, .aload_n 0, 1), (59, .getfield 45, 3), (62, .aaload, 1), (63, .aload_n 0, 1),
  (64, .getfield 28, 3), (67, .invokevirtual 92, 3), (70, .istore_n 3, 1), (71, .aload_n 0, 1), (72, .dup, 1), (73, .getfield 65, 3),
  (76, .iload_n 3, 1), (77, .ior, 1), (78, .putfield 65, 3), (81, .aload_n 0, 1), (82, .getfield 56, 3), (85, .iload_n 3, 1),
  (86, .iconst (-1), 1), (87, .ixor, 1), (88, .iand, 1), (89, .ifCond .ne 16, 3), (92, .iload_n 2, 1), (93, .aload_n 0, 1),
  (94, .getfield 62, 3), (97, .if_icmp .ge 8, 3), (100, .aload_n 0, 1), (101, .iload_n 2, 1), (102, .putfield 62, 3), (105, .return_, 1)])
set_option maxRecDepth 100000 in
theorem K_Pl_weigh : mOk M_Pl_weigh := by decide +kernel
def M_Cr_promisedSet : zM := ("WindBrides$Course", ⟨"WindBrides$Course", "promisedSet", "(LWindBrides$Coast;)I"⟩, prog_6_method_4_code, 4, (some .int), [
  (0, .iconst 0, 1), (1, .istore_n 2, 1), (2, .iconst 0, 1), (3, .istore_n 3, 1), (4, .iload_n 3, 1), (5, .aload_n 1, 1),
  (6, .getfield 41, 3), (9, .if_icmp .ge 30, 3), (12, .iload_n 2, 1), (13, .aload_n 0, 1), (14, .getfield 9, 3), (17, .iload_n 3, 1),
  (18, .iaload, 1), (19, .bipush 6, 2), (21, .if_icmp .ne 7, 3), (24, .iconst 0, 1), (25, .goto 6, 3), (28, .iconst 1, 1),
  (29, .iload_n 3, 1), (30, .ishl, 1), (31, .ior, 1), (32, .istore_n 2, 1), (33, .iinc 3 1, 3), (36, .goto (-32), 3),
  (39, .iload_n 2, 1), (40, .ireturn, 1)])
set_option maxRecDepth 100000 in
theorem K_Cr_promisedSet : mOk M_Cr_promisedSet := by decide +kernel
def M_Ji_numberOfTrailingZeros : zM := ("java/lang/Integer", ⟨"java/lang/Integer", "numberOfTrailingZeros", "(I)I"⟩, prog_15_method_48_code, 2, (some .int), [
  (0, .iload_n 0, 1), (1, .iconst (-1), 1), (2, .ixor, 1), (3, .iload_n 0, 1), (4, .iconst 1, 1), (5, .isub, 1),
  (6, .iand, 1), (7, .istore_n 0, 1), (8, .iload_n 0, 1), (9, .ifCond .gt 8, 3), (12, .iload_n 0, 1), (13, .bipush 32, 2),
  (15, .iand, 1), (16, .ireturn, 1), (17, .iconst 1, 1), (18, .istore_n 1, 1), (19, .iload_n 0, 1), (20, .ldc_w 264, 3),
  (23, .if_icmp .le 11, 3), (26, .iinc 1 16, 3), (29, .iload_n 0, 1), (30, .bipush 16, 2), (32, .iushr, 1), (33, .istore_n 0, 1),
  (34, .iload_n 0, 1), (35, .sipush 256, 3), (38, .if_icmp .le 11, 3), (41, .iinc 1 8, 3), (44, .iload_n 0, 1), (45, .bipush 8, 2),
  (47, .iushr, 1), (48, .istore_n 0, 1), (49, .iload_n 0, 1), (50, .bipush 16, 2), (52, .if_icmp .le 10, 3), (55, .iinc 1 4, 3),
  (58, .iload_n 0, 1), (59, .iconst 4, 1), (60, .iushr, 1), (61, .istore_n 0, 1), (62, .iload_n 0, 1), (63, .iconst 4, 1),
  (64, .if_icmp .le 10, 3), (67, .iinc 1 2, 3), (70, .iload_n 0, 1), (71, .iconst 2, 1), (72, .iushr, 1), (73, .istore_n 0, 1),
  (74, .iload_n 1, 1), (75, .iload_n 0, 1), (76, .iconst 1, 1), (77, .iushr, 1), (78, .iadd, 1), (79, .ireturn, 1)])
set_option maxRecDepth 100000 in
theorem K_Ji_numberOfTrailingZeros : mOk M_Ji_numberOfTrailingZeros := by decide +kernel
def M_Pl_gameFrom : zM := ("WindBrides$Plans", ⟨"WindBrides$Plans", "gameFrom", "(LWindBrides$Coast;I)I"⟩, prog_9_method_6_code, 3, (some .int), [
  (0, .aload_n 0, 1), (1, .aload_n 1, 1), (2, .iload_n 2, 1), (3, .invokevirtual 52, 3), (6, .aload_n 0, 1), (7, .iconst 0, 1),
  (8, .invokevirtual 96, 3), (11, .ireturn, 1)])
set_option maxRecDepth 100000 in
theorem K_Pl_gameFrom : mOk M_Pl_gameFrom := by decide +kernel
def M_Pl_gameValue : zM := ("WindBrides$Plans", ⟨"WindBrides$Plans", "gameValue", "(I)I"⟩, prog_9_method_7_code, 6, (some .int), [
  (0, .iload_n 1, 1), (1, .aload_n 0, 1), (2, .getfield 45, 3), (5, .if_icmp .lt 5, 3), (8, .iconst 0, 1), (9, .ireturn, 1),
  (10, .iconst 0, 1), (11, .istore_n 2, 1), (12, .iconst 0, 1), (13, .istore_n 3, 1), (14, .iload_n 3, 1), (15, .aload_n 0, 1),
  (16, .getfield 28, 3), (19, .getfield 76, 3), (22, .if_icmp .gt 117, 3), (25, .aload_n 0, 1), (26, .getfield 23, 3), (29, .iload_n 1, 1),
  (30, .iconst 1, 1), (31, .iadd, 1), (32, .aaload, 1), (33, .aload_n 0, 1), (34, .getfield 23, 3), (37, .iload_n 1, 1),
  (38, .aaload, 1), (39, .invokevirtual 48, 3), (42, .aload_n 0, 1), (43, .getfield 23, 3), (46, .iload_n 1, 1), (47, .iconst 1, 1),
  (48, .iadd, 1), (49, .aaload, 1), (50, .aload_n 0, 1), (51, .getfield 28, 3), (54, .iload_n 3, 1), (55, .invokevirtual 79, 3),
  (58, .istore 4, 2), (60, .iload 4, 2), (62, .aload_n 0, 1), (63, .iload_n 1, 1), (64, .iconst 1, 1), (65, .iadd, 1),
  (66, .invokevirtual 96, 3), (69, .iadd, 1), (70, .istore 4, 2), (72, .iload_n 1, 1), (73, .iconst 2, 1), (74, .irem, 1),
  (75, .ifCond .ne 17, 3), (78, .iload 4, 2), (80, .iload_n 2, 1), (81, .if_icmp .le 7, 3), (84, .iconst 1, 1), (85, .goto 18, 3),
  (88, .iconst 0, 1), (89, .goto 14, 3), (92, .iload 4, 2), (94, .iload_n 2, 1), (95, .if_icmp .ge 7, 3), (98, .iconst 1, 1),
  (99, .goto 4, 3), (102, .iconst 0, 1), (103, .istore 5, 2), (105, .iload_n 3, 1), (106, .ifCond .eq 8, 3), (109, .iload 5, 2),
  (111, .ifCond .eq 22, 3), (114, .iload 4, 2), (116, .istore_n 2, 1), (117, .aload_n 0, 1), (118, .iload_n 1, 1), (119, .ifCond .ne 7, 3),
  (122, .iload_n 3, 1), (123, .goto 7, 3), (126, .aload_n 0, 1), (127, .getfield 100, 3), (130, .putfield 100, 3), (133, .iinc 3 1, 3),
  (136, .goto (-122), 3), (139, .iload_n 2, 1), (140, .ireturn, 1)])
set_option maxRecDepth 100000 in
theorem K_Pl_gameValue : mOk M_Pl_gameValue := by decide +kernel
def M_Co_addReport : zM := ("WindBrides$Coast", ⟨"WindBrides$Coast", "addReport", "(IIII)I"⟩, prog_5_method_21_code, 6, (some .int), [
  (0, .aload_n 0, 1), (1, .getfield 82, 3), (4, .istore 5, 2), (6, .aload_n 0, 1), (7, .getfield 54, 3), (10, .iconst 4, 1),
  (11, .iload 5, 2), (13, .imul, 1), (14, .iload_n 1, 1), (15, .iastore, 1), (16, .aload_n 0, 1), (17, .getfield 54, 3),
  (20, .iconst 4, 1), (21, .iload 5, 2), (23, .imul, 1), (24, .iconst 1, 1), (25, .iadd, 1), (26, .iload_n 2, 1),
  (27, .iastore, 1), (28, .aload_n 0, 1), (29, .getfield 54, 3), (32, .iconst 4, 1), (33, .iload 5, 2), (35, .imul, 1),
  (36, .iconst 2, 1), (37, .iadd, 1), (38, .iload_n 3, 1), (39, .iastore, 1), (40, .aload_n 0, 1), (41, .getfield 54, 3),
  (44, .iconst 4, 1), (45, .iload 5, 2), (47, .imul, 1), (48, .iconst 3, 1), (49, .iadd, 1), (50, .iload 4, 2),
  (52, .iastore, 1), (53, .aload_n 0, 1), (54, .dup, 1), (55, .getfield 82, 3), (58, .iconst 1, 1), (59, .iadd, 1),
  (60, .putfield 82, 3), (63, .iload 5, 2), (65, .ireturn, 1)])
set_option maxRecDepth 100000 in
theorem K_Co_addReport : mOk M_Co_addReport := by decide +kernel
def M_Co_fittingWinds : zM := ("WindBrides$Coast", ⟨"WindBrides$Coast", "fittingWinds", "(I)I"⟩, prog_5_method_23_code, 5, (some .int), [
  (0, .iconst 0, 1), (1, .istore_n 2, 1), (2, .iconst 0, 1), (3, .istore_n 3, 1), (4, .iload_n 3, 1), (5, .bipush 8, 2),
  (7, .if_icmp .ge 44, 3), (10, .iconst 1, 1), (11, .istore 4, 2), (13, .iload 4, 2), (15, .bipush 9, 2), (17, .if_icmp .gt 28, 3),
  (20, .iload_n 2, 1), (21, .aload_n 0, 1), (22, .iload_n 3, 1), (23, .iload 4, 2), (25, .iload_n 1, 1), (26, .invokevirtual 129, 3),
  (29, .ifCond .eq 7, 3), (32, .iconst 1, 1), (33, .goto 4, 3), (36, .iconst 0, 1), (37, .iadd, 1), (38, .istore_n 2, 1),
  (39, .iinc 4 1, 3), (42, .goto (-29), 3), (45, .iinc 3 1, 3), (48, .goto (-44), 3), (51, .iload_n 2, 1), (52, .ireturn, 1)])
set_option maxRecDepth 100000 in
theorem K_Co_fittingWinds : mOk M_Co_fittingWinds := by decide +kernel
def M_Co_fits : zM := ("WindBrides$Coast", ⟨"WindBrides$Coast", "fits", "(III)Z"⟩, prog_5_method_22_code, 7, (some .boolean), [
  (0, .iconst 0, 1), (1, .istore 4, 2), (3, .iload 4, 2), (5, .aload_n 0, 1), (6, .getfield 82, 3), (9, .if_icmp .ge 84, 3),
  (12, .iload_n 1, 1), (13, .aload_n 0, 1), (14, .getfield 54, 3), (17, .iconst 4, 1), (18, .iload 4, 2), (20, .imul, 1),
  (21, .iconst 1, 1), (22, .iadd, 1), (23, .iaload, 1), (24, .invokestatic 92, 3), (27, .istore 5, 2), (29, .aload_n 0, 1),
  (30, .getfield 54, 3), (33, .iconst 4, 1), (34, .iload 4, 2), (36, .imul, 1), (37, .iaload, 1), (38, .iload_n 2, 1),
  (39, .iload 5, 2), (41, .iconst 3, 1), (42, .invokestatic 96, 3), (45, .istore 6, 2), (47, .iload 4, 2), (49, .iload_n 3, 1),
  (50, .if_icmp .eq 37, 3), (53, .iload 6, 2), (55, .aload_n 0, 1), (56, .getfield 54, 3), (59, .iconst 4, 1), (60, .iload 4, 2),
  (62, .imul, 1), (63, .iconst 2, 1), (64, .iadd, 1), (65, .iaload, 1), (66, .if_icmp .lt 19, 3), (69, .iload 6, 2),
  (71, .aload_n 0, 1), (72, .getfield 54, 3), (75, .iconst 4, 1), (76, .iload 4, 2), (78, .imul, 1), (79, .iconst 3, 1),
  (80, .iadd, 1), (81, .iaload, 1), (82, .if_icmp .le 5, 3), (85, .iconst 0, 1), (86, .ireturn, 1), (87, .iinc 4 1, 3),
  (90, .goto (-87), 3), (93, .iconst 1, 1), (94, .ireturn, 1)])
set_option maxRecDepth 100000 in
theorem K_Co_fits : mOk M_Co_fits := by decide +kernel
def M_Co_drawAct : zM := ("WindBrides$Coast", ⟨"WindBrides$Coast", "drawAct", "()I"⟩, prog_5_method_11_code, 1, (some .int), [
  (0, .aload_n 0, 1), (1, .aload_n 0, 1), (2, .getfield 37, 3), (5, .ldc 100, 2), (7, .imul, 1), (8, .sipush 12345, 3),
  (11, .iadd, 1), (12, .putfield 37, 3), (15, .aload_n 0, 1), (16, .getfield 37, 3), (19, .bipush 16, 2), (21, .iushr, 1),
  (22, .aload_n 0, 1), (23, .getfield 60, 3), (26, .iconst 1, 1), (27, .iadd, 1), (28, .irem, 1), (29, .ireturn, 1)])
set_option maxRecDepth 100000 in
theorem K_Co_drawAct : mOk M_Co_drawAct := by decide +kernel
def M_Pl_writeRows : zM := ("WindBrides$Plans", ⟨"WindBrides$Plans", "writeRows", "()I"⟩, prog_9_method_8_code, 3, (some .int), [
  (0, .aload_n 0, 1), (1, .getfield 23, 3), (4, .iconst 0, 1), (5, .aaload, 1), (6, .astore_n 1, 1), (7, .iconst 0, 1),
  (8, .istore_n 2, 1), (9, .iload_n 2, 1), (10, .aload_n 0, 1), (11, .getfield 45, 3), (14, .if_icmp .ge 65, 3), (17, .aload_n 0, 1),
  (18, .getfield 15, 3), (21, .iconst 3, 1), (22, .iload_n 2, 1), (23, .imul, 1), (24, .aload_n 0, 1), (25, .getfield 9, 3),
  (28, .iload_n 2, 1), (29, .iaload, 1), (30, .iastore, 1), (31, .aload_n 0, 1), (32, .getfield 15, 3), (35, .iconst 3, 1),
  (36, .iload_n 2, 1), (37, .imul, 1), (38, .iconst 1, 1), (39, .iadd, 1), (40, .aload_n 1, 1), (41, .aload_n 0, 1),
  (42, .getfield 28, 3), (45, .aload_n 0, 1), (46, .getfield 9, 3), (49, .iload_n 2, 1), (50, .iaload, 1), (51, .invokevirtual 79, 3),
  (54, .iastore, 1), (55, .aload_n 0, 1), (56, .getfield 15, 3), (59, .iconst 3, 1), (60, .iload_n 2, 1), (61, .imul, 1),
  (62, .iconst 2, 1), (63, .iadd, 1), (64, .aload_n 1, 1), (65, .aload_n 0, 1), (66, .getfield 28, 3), (69, .invokevirtual 92, 3),
  (72, .iastore, 1), (73, .iinc 2 1, 3), (76, .goto (-67), 3), (79, .aload_n 0, 1), (80, .aload_n 0, 1), (81, .getfield 45, 3),
  (84, .putfield 103, 3), (87, .aload_n 0, 1), (88, .getfield 103, 3), (91, .ireturn, 1)])
set_option maxRecDepth 100000 in
theorem K_Pl_writeRows : mOk M_Pl_writeRows := by decide +kernel
def M_Pl_hasCell : zM := ("WindBrides$Plans", ⟨"WindBrides$Plans", "hasCell", "(II)Z"⟩, prog_9_method_9_code, 3, (some .boolean), [
  (0, .iload_n 1, 1), (1, .iconst 0, 1), (2, .aload_n 0, 1), (3, .getfield 103, 3), (6, .iconst 1, 1), (7, .isub, 1),
  (8, .invokestatic 106, 3), (11, .ifCond .eq 16, 3), (14, .iload_n 2, 1), (15, .iconst 0, 1), (16, .iconst 2, 1), (17, .invokestatic 106, 3),
  (20, .ifCond .eq 7, 3), (23, .iconst 1, 1), (24, .goto 4, 3), (27, .iconst 0, 1), (28, .ireturn, 1)])
set_option maxRecDepth 100000 in
theorem K_Pl_hasCell : mOk M_Pl_hasCell := by decide +kernel
def M_Pl_firstWrongRow : zM := ("WindBrides$Plans", ⟨"WindBrides$Plans", "firstWrongRow", "(LWindBrides$Coast;)I"⟩, prog_9_method_10_code, 5, (some .int), [
  (0, .aload_n 0, 1), (1, .aload_n 1, 1), (2, .aload_n 0, 1), (3, .getfield 103, 3), (6, .invokevirtual 52, 3), (9, .aload_n 0, 1),
  (10, .getfield 23, 3), (13, .iconst 0, 1), (14, .aaload, 1), (15, .astore_n 2, 1), (16, .iconst 0, 1), (17, .istore_n 3, 1),
  (18, .iload_n 3, 1), (19, .aload_n 0, 1), (20, .getfield 103, 3), (23, .if_icmp .ge 92, 3), (26, .iload_n 3, 1), (27, .aload_n 0, 1),
  (28, .getfield 45, 3), (31, .if_icmp .ge 66, 3), (34, .aload_n 1, 1), (35, .aload_n 0, 1), (36, .getfield 15, 3), (39, .iconst 3, 1),
  (40, .iload_n 3, 1), (41, .imul, 1), (42, .iaload, 1), (43, .invokevirtual 110, 3), (46, .ifCond .eq 51, 3), (49, .aload_n 0, 1),
  (50, .getfield 15, 3), (53, .iconst 3, 1), (54, .iload_n 3, 1), (55, .imul, 1), (56, .iconst 1, 1), (57, .iadd, 1),
  (58, .iaload, 1), (59, .aload_n 2, 1), (60, .aload_n 1, 1), (61, .aload_n 0, 1), (62, .getfield 15, 3), (65, .iconst 3, 1),
  (66, .iload_n 3, 1), (67, .imul, 1), (68, .iaload, 1), (69, .invokevirtual 79, 3), (72, .if_icmp .ne 25, 3), (75, .aload_n 0, 1),
  (76, .getfield 15, 3), (79, .iconst 3, 1), (80, .iload_n 3, 1), (81, .imul, 1), (82, .iconst 2, 1), (83, .iadd, 1),
  (84, .iaload, 1), (85, .aload_n 2, 1), (86, .aload_n 1, 1), (87, .invokevirtual 92, 3), (90, .if_icmp .ne 7, 3), (93, .iconst 1, 1),
  (94, .goto 4, 3), (97, .iconst 0, 1), (98, .istore 4, 2), (100, .iload 4, 2), (102, .ifCond .ne 7, 3), (105, .iload_n 3, 1),
  (106, .iconst 1, 1), (107, .iadd, 1), (108, .ireturn, 1), (109, .iinc 3 1, 3), (112, .goto (-94), 3), (115, .iconst 0, 1),
  (116, .ireturn, 1)])
set_option maxRecDepth 100000 in
theorem K_Pl_firstWrongRow : mOk M_Pl_firstWrongRow := by decide +kernel
def M_Co_isAct : zM := ("WindBrides$Coast", ⟨"WindBrides$Coast", "isAct", "(I)Z"⟩, prog_5_method_6_code, 2, (some .boolean), [
  (0, .iload_n 1, 1), (1, .ifCond .lt 15, 3), (4, .iload_n 1, 1), (5, .aload_n 0, 1), (6, .getfield 60, 3), (9, .if_icmp .gt 7, 3),
  (12, .iconst 1, 1), (13, .goto 4, 3), (16, .iconst 0, 1), (17, .ireturn, 1)])
set_option maxRecDepth 100000 in
theorem K_Co_isAct : mOk M_Co_isAct := by decide +kernel
def M_Sh_init : zM := ("WindBrides$Shared", ⟨"WindBrides$Shared", "<init>", "(II[I)V"⟩, prog_10_method_1_code, 4, none, [
  (0, .aload_n 0, 1), (1, .iload_n 1, 1), (2, .iload_n 2, 1), (3, .aload_n 3, 1), (4, .invokespecial 1, 3), (7, .return_, 1)])
set_option maxRecDepth 100000 in
theorem K_Sh_init : mOk M_Sh_init := by decide +kernel
def M_Gi_init : zM := ("WindBrides$Girl", ⟨"WindBrides$Girl", "<init>", "(II[I)V"⟩, prog_7_method_1_code, 4, none, [
  (0, .aload_n 0, 1), (1, .invokespecial 1, 3), (4, .aload_n 0, 1), (5, .iload_n 1, 1), (6, .putfield 7, 3), (9, .aload_n 0, 1),
  (10, .iload_n 2, 1), (11, .putfield 13, 3), (14, .aload_n 0, 1), (15, .aload_n 3, 1), (16, .putfield 16, 3), (19, .return_, 1)])
set_option maxRecDepth 100000 in
theorem K_Gi_init : mOk M_Gi_init := by decide +kernel
def M_Br_init : zM := ("WindBrides$Bred", ⟨"WindBrides$Bred", "<init>", "(II[I)V"⟩, prog_3_method_1_code, 4, none, [
  (0, .aload_n 0, 1), (1, .iload_n 1, 1), (2, .iload_n 2, 1), (3, .aload_n 3, 1), (4, .invokespecial 1, 3), (7, .return_, 1)])
set_option maxRecDepth 100000 in
theorem K_Br_init : mOk M_Br_init := by decide +kernel
def M_Tw_init : zM := ("WindBrides$Twice", ⟨"WindBrides$Twice", "<init>", "(II[I)V"⟩, prog_12_method_1_code, 4, none, [
  (0, .aload_n 0, 1), (1, .iload_n 1, 1), (2, .iload_n 2, 1), (3, .aload_n 3, 1), (4, .invokespecial 1, 3), (7, .return_, 1)])
set_option maxRecDepth 100000 in
theorem K_Tw_init : mOk M_Tw_init := by decide +kernel
def M_La_init : zM := ("WindBrides$Late", ⟨"WindBrides$Late", "<init>", "(II[I)V"⟩, prog_8_method_1_code, 4, none, [
  (0, .aload_n 0, 1), (1, .iload_n 1, 1), (2, .iload_n 2, 1), (3, .aload_n 3, 1), (4, .invokespecial 1, 3), (7, .return_, 1)])
set_option maxRecDepth 100000 in
theorem K_La_init : mOk M_La_init := by decide +kernel
def M_Ca_init : zM := ("WindBrides$Calm", ⟨"WindBrides$Calm", "<init>", "(II[I)V"⟩, prog_4_method_1_code, 4, none, [
  (0, .aload_n 0, 1), (1, .iload_n 1, 1), (2, .iload_n 2, 1), (3, .aload_n 3, 1), (4, .invokespecial 1, 3), (7, .return_, 1)])
set_option maxRecDepth 100000 in
theorem K_Ca_init : mOk M_Ca_init := by decide +kernel
def M_Sh_sails : zM := ("WindBrides$Shared", ⟨"WindBrides$Shared", "sails", "(I)I"⟩, prog_10_method_2_code, 2, (some .int), [
  (0, .aload_n 0, 1), (1, .bipush 20, 2), (3, .invokevirtual 7, 3), (6, .aload_n 0, 1), (7, .iload_n 1, 1), (8, .invokespecial 13, 3),
  (11, .iconst 2, 1), (12, .isub, 1), (13, .ireturn, 1)])
set_option maxRecDepth 100000 in
theorem K_Sh_sails : mOk M_Sh_sails := by decide +kernel
def M_Gi_begins : zM := ("WindBrides$Girl", ⟨"WindBrides$Girl", "begins", "(I)V"⟩, prog_7_method_2_code, 2, none, [
  (0, .aload_n 0, 1), (1, .getfield 20, 3), (4, .ifCond .ne 35, 3), (7, .aload_n 0, 1), (8, .getfield 24, 3), (11, .aload_n 0, 1),
  (12, .getfield 16, 3), (15, .arraylength, 1), (16, .if_icmp .ge 23, 3), (19, .aload_n 0, 1), (20, .getfield 16, 3), (23, .aload_n 0, 1),
  (24, .getfield 24, 3), (27, .iload_n 1, 1), (28, .iastore, 1), (29, .aload_n 0, 1), (30, .dup, 1), (31, .getfield 24, 3),
  (34, .iconst 1, 1), (35, .iadd, 1), (36, .putfield 24, 3), (39, .return_, 1)])
set_option maxRecDepth 100000 in
theorem K_Gi_begins : mOk M_Gi_begins := by decide +kernel
def M_Tw_sails : zM := ("WindBrides$Twice", ⟨"WindBrides$Twice", "sails", "(I)I"⟩, prog_12_method_2_code, 2, (some .int), [
  (0, .aload_n 0, 1), (1, .bipush 50, 2), (3, .invokevirtual 7, 3), (6, .aload_n 0, 1), (7, .iload_n 1, 1), (8, .iconst 1, 1),
  (9, .iadd, 1), (10, .invokespecial 13, 3), (13, .ireturn, 1)])
set_option maxRecDepth 100000 in
theorem K_Tw_sails : mOk M_Tw_sails := by decide +kernel
def M_Gi_sails : zM := ("WindBrides$Girl", ⟨"WindBrides$Girl", "sails", "(I)I"⟩, prog_7_method_3_code, 2, (some .int), [
  (0, .aload_n 0, 1), (1, .bipush 10, 2), (3, .invokevirtual 27, 3), (6, .iload_n 1, 1), (7, .iconst 3, 1), (8, .imul, 1),
  (9, .aload_n 0, 1), (10, .getfield 7, 3), (13, .isub, 1), (14, .ireturn, 1)])
set_option maxRecDepth 100000 in
theorem K_Gi_sails : mOk M_Gi_sails := by decide +kernel
def M_Br_calls : zM := ("WindBrides$Bred", ⟨"WindBrides$Bred", "calls", "(I)I"⟩, prog_3_method_2_code, 2, (some .int), [
  (0, .aload_n 0, 1), (1, .bipush 30, 2), (3, .invokevirtual 7, 3), (6, .aload_n 0, 1), (7, .iload_n 1, 1), (8, .invokespecial 13, 3),
  (11, .aload_n 0, 1), (12, .getfield 17, 3), (15, .ixor, 1), (16, .ireturn, 1)])
set_option maxRecDepth 100000 in
theorem K_Br_calls : mOk M_Br_calls := by decide +kernel
def M_Ca_calls : zM := ("WindBrides$Calm", ⟨"WindBrides$Calm", "calls", "(I)I"⟩, prog_4_method_2_code, 2, (some .int), [
  (0, .aload_n 0, 1), (1, .bipush 60, 2), (3, .invokevirtual 7, 3), (6, .iconst 1, 1), (7, .aload_n 0, 1), (8, .iload_n 1, 1),
  (9, .invokespecial 13, 3), (12, .isub, 1), (13, .ireturn, 1)])
set_option maxRecDepth 100000 in
theorem K_Ca_calls : mOk M_Ca_calls := by decide +kernel
def M_Gi_calls : zM := ("WindBrides$Girl", ⟨"WindBrides$Girl", "calls", "(I)I"⟩, prog_7_method_4_code, 2, (some .int), [
  (0, .aload_n 0, 1), (1, .bipush 11, 2), (3, .invokevirtual 27, 3), (6, .aload_n 0, 1), (7, .iload_n 1, 1), (8, .invokevirtual 31, 3),
  (11, .aload_n 0, 1), (12, .getfield 13, 3), (15, .iadd, 1), (16, .ireturn, 1)])
set_option maxRecDepth 100000 in
theorem K_Gi_calls : mOk M_Gi_calls := by decide +kernel
def M_Ca_shares : zM := ("WindBrides$Calm", ⟨"WindBrides$Calm", "shares", "(I)I"⟩, prog_4_method_3_code, 3, (some .int), [
  (0, .aload_n 0, 1), (1, .bipush 61, 2), (3, .invokevirtual 7, 3), (6, .aload_n 0, 1), (7, .iload_n 1, 1), (8, .invokespecial 17, 3),
  (11, .istore_n 2, 1), (12, .iload_n 2, 1), (13, .aload_n 0, 1), (14, .aload_n 0, 1), (15, .getfield 20, 3), (18, .invokevirtual 24, 3),
  (21, .ixor, 1), (22, .ireturn, 1)])
set_option maxRecDepth 100000 in
theorem K_Ca_shares : mOk M_Ca_shares := by decide +kernel
def M_La_shares : zM := ("WindBrides$Late", ⟨"WindBrides$Late", "shares", "(I)I"⟩, prog_8_method_2_code, 2, (some .int), [
  (0, .aload_n 0, 1), (1, .bipush 40, 2), (3, .invokevirtual 7, 3), (6, .aload_n 0, 1), (7, .iload_n 1, 1), (8, .invokespecial 13, 3),
  (11, .iconst 2, 1), (12, .imul, 1), (13, .ireturn, 1)])
set_option maxRecDepth 100000 in
theorem K_La_shares : mOk M_La_shares := by decide +kernel
def M_Gi_shares : zM := ("WindBrides$Girl", ⟨"WindBrides$Girl", "shares", "(I)I"⟩, prog_7_method_5_code, 2, (some .int), [
  (0, .aload_n 0, 1), (1, .bipush 12, 2), (3, .invokevirtual 27, 3), (6, .aload_n 0, 1), (7, .getfield 7, 3), (10, .aload_n 0, 1),
  (11, .getfield 13, 3), (14, .if_icmp .ne 10, 3), (17, .aload_n 0, 1), (18, .iconst 1, 1), (19, .putfield 20, 3), (22, .iconst 0, 1),
  (23, .ireturn, 1), (24, .iload_n 1, 1), (25, .aload_n 0, 1), (26, .getfield 7, 3), (29, .aload_n 0, 1), (30, .getfield 13, 3),
  (33, .isub, 1), (34, .irem, 1), (35, .ireturn, 1)])
set_option maxRecDepth 100000 in
theorem K_Gi_shares : mOk M_Gi_shares := by decide +kernel
def M_Tw_weds : zM := ("WindBrides$Twice", ⟨"WindBrides$Twice", "weds", "(I)I"⟩, prog_12_method_3_code, 3, (some .int), [
  (0, .aload_n 0, 1), (1, .bipush 51, 2), (3, .invokevirtual 7, 3), (6, .aload_n 0, 1), (7, .iload_n 1, 1), (8, .invokespecial 17, 3),
  (11, .istore_n 2, 1), (12, .iload_n 2, 1), (13, .aload_n 0, 1), (14, .aload_n 0, 1), (15, .getfield 20, 3), (18, .invokevirtual 24, 3),
  (21, .iadd, 1), (22, .ireturn, 1)])
set_option maxRecDepth 100000 in
theorem K_Tw_weds : mOk M_Tw_weds := by decide +kernel
def M_Gi_weds : zM := ("WindBrides$Girl", ⟨"WindBrides$Girl", "weds", "(I)I"⟩, prog_7_method_6_code, 3, (some .int), [
  (0, .aload_n 0, 1), (1, .bipush 13, 2), (3, .invokevirtual 27, 3), (6, .aload_n 0, 1), (7, .iload_n 1, 1), (8, .invokevirtual 35, 3),
  (11, .istore_n 2, 1), (12, .iload_n 2, 1), (13, .aload_n 0, 1), (14, .iload_n 1, 1), (15, .invokevirtual 38, 3), (18, .isub, 1),
  (19, .ireturn, 1)])
set_option maxRecDepth 100000 in
theorem K_Gi_weds : mOk M_Gi_weds := by decide +kernel
def M_Ji_bitCount : zM := ("java/lang/Integer", ⟨"java/lang/Integer", "bitCount", "(I)I"⟩, prog_15_method_49_code, 1, (some .int), [
  (0, .iload_n 0, 1), (1, .iload_n 0, 1), (2, .iconst 1, 1), (3, .iushr, 1), (4, .ldc_w 265, 3), (7, .iand, 1),
  (8, .isub, 1), (9, .istore_n 0, 1), (10, .iload_n 0, 1), (11, .ldc_w 266, 3), (14, .iand, 1), (15, .iload_n 0, 1),
  (16, .iconst 2, 1), (17, .iushr, 1), (18, .ldc_w 266, 3), (21, .iand, 1), (22, .iadd, 1), (23, .istore_n 0, 1),
  (24, .iload_n 0, 1), (25, .iload_n 0, 1), (26, .iconst 4, 1), (27, .iushr, 1), (28, .iadd, 1), (29, .ldc_w 267, 3),
  (32, .iand, 1), (33, .istore_n 0, 1), (34, .iload_n 0, 1), (35, .iload_n 0, 1), (36, .bipush 8, 2), (38, .iushr, 1),
  (39, .iadd, 1), (40, .istore_n 0, 1), (41, .iload_n 0, 1), (42, .iload_n 0, 1), (43, .bipush 16, 2), (45, .iushr, 1),
  (46, .iadd, 1), (47, .istore_n 0, 1), (48, .iload_n 0, 1), (49, .bipush 63, 2), (51, .iand, 1), (52, .ireturn, 1)])
set_option maxRecDepth 100000 in
theorem K_Ji_bitCount : mOk M_Ji_bitCount := by decide +kernel
def M_Co_copyFrom : zM := ("WindBrides$Coast", ⟨"WindBrides$Coast", "copyFrom", "(LWindBrides$Coast;)V"⟩, prog_5_method_2_code, 2, none, [
  (0, .aload_n 0, 1), (1, .aload_n 1, 1), (2, .getfield 60, 3), (5, .putfield 60, 3), (8, .aload_n 1, 1), (9, .getfield 9, 3),
  (12, .iconst 0, 1), (13, .aload_n 0, 1), (14, .getfield 9, 3), (17, .iconst 0, 1), (18, .bipush 6, 2), (20, .invokestatic 63, 3),
  (23, .aload_n 1, 1), (24, .getfield 15, 3), (27, .iconst 0, 1), (28, .aload_n 0, 1), (29, .getfield 15, 3), (32, .iconst 0, 1),
  (33, .bipush 6, 2), (35, .invokestatic 63, 3), (38, .aload_n 1, 1), (39, .getfield 18, 3), (42, .iconst 0, 1), (43, .aload_n 0, 1),
  (44, .getfield 18, 3), (47, .iconst 0, 1), (48, .bipush 6, 2), (50, .invokestatic 63, 3), (53, .aload_n 0, 1), (54, .aload_n 1, 1),
  (55, .getfield 69, 3), (58, .putfield 69, 3), (61, .aload_n 1, 1), (62, .getfield 21, 3), (65, .iconst 0, 1), (66, .aload_n 0, 1),
  (67, .getfield 21, 3), (70, .iconst 0, 1), (71, .bipush 6, 2), (73, .invokestatic 63, 3), (76, .aload_n 1, 1), (77, .getfield 24, 3),
  (80, .iconst 0, 1), (81, .aload_n 0, 1), (82, .getfield 24, 3), (85, .iconst 0, 1), (86, .bipush 6, 2), (88, .invokestatic 63, 3),
  (91, .aload_n 1, 1), (92, .getfield 27, 3), (95, .iconst 0, 1), (96, .aload_n 0, 1), (97, .getfield 27, 3), (100, .iconst 0, 1),
  (101, .bipush 6, 2), (103, .invokestatic 63, 3), (106, .aload_n 1, 1), (107, .getfield 30, 3), (110, .iconst 0, 1), (111, .aload_n 0, 1),
  (112, .getfield 30, 3), (115, .iconst 0, 1), (116, .bipush 6, 2), (118, .invokestatic 63, 3), (121, .aload_n 0, 1), (122, .aload_n 1, 1),
  (123, .getfield 33, 3), (126, .putfield 33, 3), (129, .aload_n 0, 1), (130, .aload_n 1, 1), (131, .getfield 72, 3), (134, .putfield 72, 3),
  (137, .aload_n 0, 1), (138, .aload_n 1, 1), (139, .getfield 37, 3), (142, .putfield 37, 3), (145, .aload_n 0, 1), (146, .getfield 43, 3),
  (149, .aload_n 1, 1), (150, .getfield 43, 3), (153, .invokevirtual 75, 3), (156, .aload_n 0, 1), (157, .getfield 50, 3), (160, .aload_n 1, 1),
  (161, .getfield 50, 3), (164, .invokevirtual 79, 3), (167, .aload_n 0, 1), (168, .aload_n 1, 1), (169, .getfield 82, 3), (172, .putfield 82, 3),
  (175, .aload_n 1, 1), (176, .getfield 54, 3), (179, .iconst 0, 1), (180, .aload_n 0, 1), (181, .getfield 54, 3), (184, .iconst 0, 1),
  (185, .bipush 24, 2), (187, .invokestatic 63, 3), (190, .return_, 1)])
set_option maxRecDepth 100000 in
theorem K_Co_copyFrom : mOk M_Co_copyFrom := by decide +kernel

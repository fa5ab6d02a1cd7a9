abbrev mX16_make : ks_M := (RX16, cX16_make, 5, none, "make")
def drX16_make : List (Nat × Instr × Nat) := [(0, .iconst 0, 1), (1, .istore 4, 2), (3, .iload 4, 2), (5, .iload_n 3, 1), (6, .if_icmp .ge 37, 3), (9, .aload_n 0, 1), (10, .getfield 720, 3), (13, .aload_n 0, 1), (14, .getfield 723, 3), (17, .lload_n 1, 1), (18, .bipush 8, 2), (20, .iload 4, 2), (22, .imul, 1), (23, .lushr, 1), (24, .l2i, 1), (25, .i2b, 1), (26, .bastore, 1), (27, .aload_n 0, 1), (28, .dup, 1), (29, .getfield 723, 3), (32, .iconst 1, 1), (33, .iadd, 1), (34, .putfield 723, 3), (37, .iinc 4 1, 3), (40, .goto (-37), 3), (43, .return_, 1)]
set_option maxRecDepth 100000 in
theorem daX16_make : dk_all cX16_make drX16_make = true := by decide +kernel
theorem dX16_make_0 : decode cX16_make 0 = .ok (.iconst 0, 1) := dk_get daX16_make 0 (r := (0, .iconst 0, 1)) rfl
theorem dX16_make_1 : decode cX16_make 1 = .ok (.istore 4, 2) := dk_get daX16_make 1 (r := (1, .istore 4, 2)) rfl
theorem dX16_make_3 : decode cX16_make 3 = .ok (.iload 4, 2) := dk_get daX16_make 2 (r := (3, .iload 4, 2)) rfl
theorem dX16_make_5 : decode cX16_make 5 = .ok (.iload_n 3, 1) := dk_get daX16_make 3 (r := (5, .iload_n 3, 1)) rfl
theorem dX16_make_6 : decode cX16_make 6 = .ok (.if_icmp .ge 37, 3) := dk_get daX16_make 4 (r := (6, .if_icmp .ge 37, 3)) rfl
theorem dX16_make_9 : decode cX16_make 9 = .ok (.aload_n 0, 1) := dk_get daX16_make 5 (r := (9, .aload_n 0, 1)) rfl
theorem dX16_make_10 : decode cX16_make 10 = .ok (.getfield 720, 3) := dk_get daX16_make 6 (r := (10, .getfield 720, 3)) rfl
theorem dX16_make_13 : decode cX16_make 13 = .ok (.aload_n 0, 1) := dk_get daX16_make 7 (r := (13, .aload_n 0, 1)) rfl
theorem dX16_make_14 : decode cX16_make 14 = .ok (.getfield 723, 3) := dk_get daX16_make 8 (r := (14, .getfield 723, 3)) rfl
theorem dX16_make_17 : decode cX16_make 17 = .ok (.lload_n 1, 1) := dk_get daX16_make 9 (r := (17, .lload_n 1, 1)) rfl
theorem dX16_make_18 : decode cX16_make 18 = .ok (.bipush 8, 2) := dk_get daX16_make 10 (r := (18, .bipush 8, 2)) rfl
theorem dX16_make_20 : decode cX16_make 20 = .ok (.iload 4, 2) := dk_get daX16_make 11 (r := (20, .iload 4, 2)) rfl
theorem dX16_make_22 : decode cX16_make 22 = .ok (.imul, 1) := dk_get daX16_make 12 (r := (22, .imul, 1)) rfl
theorem dX16_make_23 : decode cX16_make 23 = .ok (.lushr, 1) := dk_get daX16_make 13 (r := (23, .lushr, 1)) rfl
theorem dX16_make_24 : decode cX16_make 24 = .ok (.l2i, 1) := dk_get daX16_make 14 (r := (24, .l2i, 1)) rfl
theorem dX16_make_25 : decode cX16_make 25 = .ok (.i2b, 1) := dk_get daX16_make 15 (r := (25, .i2b, 1)) rfl
theorem dX16_make_26 : decode cX16_make 26 = .ok (.bastore, 1) := dk_get daX16_make 16 (r := (26, .bastore, 1)) rfl
theorem dX16_make_27 : decode cX16_make 27 = .ok (.aload_n 0, 1) := dk_get daX16_make 17 (r := (27, .aload_n 0, 1)) rfl
theorem dX16_make_28 : decode cX16_make 28 = .ok (.dup, 1) := dk_get daX16_make 18 (r := (28, .dup, 1)) rfl
theorem dX16_make_29 : decode cX16_make 29 = .ok (.getfield 723, 3) := dk_get daX16_make 19 (r := (29, .getfield 723, 3)) rfl
theorem dX16_make_32 : decode cX16_make 32 = .ok (.iconst 1, 1) := dk_get daX16_make 20 (r := (32, .iconst 1, 1)) rfl
theorem dX16_make_33 : decode cX16_make 33 = .ok (.iadd, 1) := dk_get daX16_make 21 (r := (33, .iadd, 1)) rfl
theorem dX16_make_34 : decode cX16_make 34 = .ok (.putfield 723, 3) := dk_get daX16_make 22 (r := (34, .putfield 723, 3)) rfl
theorem dX16_make_37 : decode cX16_make 37 = .ok (.iinc 4 1, 3) := dk_get daX16_make 23 (r := (37, .iinc 4 1, 3)) rfl
theorem dX16_make_40 : decode cX16_make 40 = .ok (.goto (-37), 3) := dk_get daX16_make 24 (r := (40, .goto (-37), 3)) rfl
theorem dX16_make_43 : decode cX16_make 43 = .ok (.return_, 1) := dk_get daX16_make 25 (r := (43, .return_, 1)) rfl
abbrev mX16_make_ : ks_M := (RX16, cX16_make_, 5, none, "make")
def drX16_make_ : List (Nat × Instr × Nat) := [(0, .iconst 0, 1), (1, .istore 4, 2), (3, .iload 4, 2), (5, .iload_n 3, 1), (6, .if_icmp .ge 34, 3), (9, .aload_n 0, 1), (10, .getfield 720, 3), (13, .aload_n 0, 1), (14, .getfield 723, 3), (17, .aload_n 1, 1), (18, .iload_n 2, 1), (19, .iload 4, 2), (21, .iadd, 1), (22, .baload, 1), (23, .bastore, 1), (24, .aload_n 0, 1), (25, .dup, 1), (26, .getfield 723, 3), (29, .iconst 1, 1), (30, .iadd, 1), (31, .putfield 723, 3), (34, .iinc 4 1, 3), (37, .goto (-34), 3), (40, .return_, 1)]
set_option maxRecDepth 100000 in
theorem daX16_make_ : dk_all cX16_make_ drX16_make_ = true := by decide +kernel
theorem dX16_make__0 : decode cX16_make_ 0 = .ok (.iconst 0, 1) := dk_get daX16_make_ 0 (r := (0, .iconst 0, 1)) rfl
theorem dX16_make__1 : decode cX16_make_ 1 = .ok (.istore 4, 2) := dk_get daX16_make_ 1 (r := (1, .istore 4, 2)) rfl
theorem dX16_make__3 : decode cX16_make_ 3 = .ok (.iload 4, 2) := dk_get daX16_make_ 2 (r := (3, .iload 4, 2)) rfl
theorem dX16_make__5 : decode cX16_make_ 5 = .ok (.iload_n 3, 1) := dk_get daX16_make_ 3 (r := (5, .iload_n 3, 1)) rfl
theorem dX16_make__6 : decode cX16_make_ 6 = .ok (.if_icmp .ge 34, 3) := dk_get daX16_make_ 4 (r := (6, .if_icmp .ge 34, 3)) rfl
theorem dX16_make__9 : decode cX16_make_ 9 = .ok (.aload_n 0, 1) := dk_get daX16_make_ 5 (r := (9, .aload_n 0, 1)) rfl
theorem dX16_make__10 : decode cX16_make_ 10 = .ok (.getfield 720, 3) := dk_get daX16_make_ 6 (r := (10, .getfield 720, 3)) rfl
theorem dX16_make__13 : decode cX16_make_ 13 = .ok (.aload_n 0, 1) := dk_get daX16_make_ 7 (r := (13, .aload_n 0, 1)) rfl
theorem dX16_make__14 : decode cX16_make_ 14 = .ok (.getfield 723, 3) := dk_get daX16_make_ 8 (r := (14, .getfield 723, 3)) rfl
theorem dX16_make__17 : decode cX16_make_ 17 = .ok (.aload_n 1, 1) := dk_get daX16_make_ 9 (r := (17, .aload_n 1, 1)) rfl
theorem dX16_make__18 : decode cX16_make_ 18 = .ok (.iload_n 2, 1) := dk_get daX16_make_ 10 (r := (18, .iload_n 2, 1)) rfl
theorem dX16_make__19 : decode cX16_make_ 19 = .ok (.iload 4, 2) := dk_get daX16_make_ 11 (r := (19, .iload 4, 2)) rfl
theorem dX16_make__21 : decode cX16_make_ 21 = .ok (.iadd, 1) := dk_get daX16_make_ 12 (r := (21, .iadd, 1)) rfl
theorem dX16_make__22 : decode cX16_make_ 22 = .ok (.baload, 1) := dk_get daX16_make_ 13 (r := (22, .baload, 1)) rfl
theorem dX16_make__23 : decode cX16_make_ 23 = .ok (.bastore, 1) := dk_get daX16_make_ 14 (r := (23, .bastore, 1)) rfl
theorem dX16_make__24 : decode cX16_make_ 24 = .ok (.aload_n 0, 1) := dk_get daX16_make_ 15 (r := (24, .aload_n 0, 1)) rfl
theorem dX16_make__25 : decode cX16_make_ 25 = .ok (.dup, 1) := dk_get daX16_make_ 16 (r := (25, .dup, 1)) rfl
theorem dX16_make__26 : decode cX16_make_ 26 = .ok (.getfield 723, 3) := dk_get daX16_make_ 17 (r := (26, .getfield 723, 3)) rfl
theorem dX16_make__29 : decode cX16_make_ 29 = .ok (.iconst 1, 1) := dk_get daX16_make_ 18 (r := (29, .iconst 1, 1)) rfl
theorem dX16_make__30 : decode cX16_make_ 30 = .ok (.iadd, 1) := dk_get daX16_make_ 19 (r := (30, .iadd, 1)) rfl
theorem dX16_make__31 : decode cX16_make_ 31 = .ok (.putfield 723, 3) := dk_get daX16_make_ 20 (r := (31, .putfield 723, 3)) rfl
theorem dX16_make__34 : decode cX16_make_ 34 = .ok (.iinc 4 1, 3) := dk_get daX16_make_ 21 (r := (34, .iinc 4 1, 3)) rfl
theorem dX16_make__37 : decode cX16_make_ 37 = .ok (.goto (-34), 3) := dk_get daX16_make_ 22 (r := (37, .goto (-34), 3)) rfl
theorem dX16_make__40 : decode cX16_make_ 40 = .ok (.return_, 1) := dk_get daX16_make_ 23 (r := (40, .return_, 1)) rfl
abbrev mX16_makeCount : ks_M := (RX16, cX16_makeCount, 2, none, "makeCount")
def drX16_makeCount : List (Nat × Instr × Nat) := [(0, .iload_n 1, 1), (1, .sipush 253, 3), (4, .if_icmp .ge 13, 3), (7, .aload_n 0, 1), (8, .iload_n 1, 1), (9, .i2l, 1), (10, .iconst 1, 1), (11, .invokevirtual 726, 3), (14, .goto 18, 3), (17, .aload_n 0, 1), (18, .ldc2_w 271, 3), (21, .iconst 1, 1), (22, .invokevirtual 726, 3), (25, .aload_n 0, 1), (26, .iload_n 1, 1), (27, .i2l, 1), (28, .iconst 2, 1), (29, .invokevirtual 726, 3), (32, .return_, 1)]
set_option maxRecDepth 100000 in
theorem daX16_makeCount : dk_all cX16_makeCount drX16_makeCount = true := by decide +kernel
theorem dX16_makeCount_0 : decode cX16_makeCount 0 = .ok (.iload_n 1, 1) := dk_get daX16_makeCount 0 (r := (0, .iload_n 1, 1)) rfl
theorem dX16_makeCount_1 : decode cX16_makeCount 1 = .ok (.sipush 253, 3) := dk_get daX16_makeCount 1 (r := (1, .sipush 253, 3)) rfl
theorem dX16_makeCount_4 : decode cX16_makeCount 4 = .ok (.if_icmp .ge 13, 3) := dk_get daX16_makeCount 2 (r := (4, .if_icmp .ge 13, 3)) rfl
theorem dX16_makeCount_7 : decode cX16_makeCount 7 = .ok (.aload_n 0, 1) := dk_get daX16_makeCount 3 (r := (7, .aload_n 0, 1)) rfl
theorem dX16_makeCount_8 : decode cX16_makeCount 8 = .ok (.iload_n 1, 1) := dk_get daX16_makeCount 4 (r := (8, .iload_n 1, 1)) rfl
theorem dX16_makeCount_9 : decode cX16_makeCount 9 = .ok (.i2l, 1) := dk_get daX16_makeCount 5 (r := (9, .i2l, 1)) rfl
theorem dX16_makeCount_10 : decode cX16_makeCount 10 = .ok (.iconst 1, 1) := dk_get daX16_makeCount 6 (r := (10, .iconst 1, 1)) rfl
theorem dX16_makeCount_11 : decode cX16_makeCount 11 = .ok (.invokevirtual 726, 3) := dk_get daX16_makeCount 7 (r := (11, .invokevirtual 726, 3)) rfl
theorem dX16_makeCount_14 : decode cX16_makeCount 14 = .ok (.goto 18, 3) := dk_get daX16_makeCount 8 (r := (14, .goto 18, 3)) rfl
theorem dX16_makeCount_17 : decode cX16_makeCount 17 = .ok (.aload_n 0, 1) := dk_get daX16_makeCount 9 (r := (17, .aload_n 0, 1)) rfl
theorem dX16_makeCount_18 : decode cX16_makeCount 18 = .ok (.ldc2_w 271, 3) := dk_get daX16_makeCount 10 (r := (18, .ldc2_w 271, 3)) rfl
theorem dX16_makeCount_21 : decode cX16_makeCount 21 = .ok (.iconst 1, 1) := dk_get daX16_makeCount 11 (r := (21, .iconst 1, 1)) rfl
theorem dX16_makeCount_22 : decode cX16_makeCount 22 = .ok (.invokevirtual 726, 3) := dk_get daX16_makeCount 12 (r := (22, .invokevirtual 726, 3)) rfl
theorem dX16_makeCount_25 : decode cX16_makeCount 25 = .ok (.aload_n 0, 1) := dk_get daX16_makeCount 13 (r := (25, .aload_n 0, 1)) rfl
theorem dX16_makeCount_26 : decode cX16_makeCount 26 = .ok (.iload_n 1, 1) := dk_get daX16_makeCount 14 (r := (26, .iload_n 1, 1)) rfl
theorem dX16_makeCount_27 : decode cX16_makeCount 27 = .ok (.i2l, 1) := dk_get daX16_makeCount 15 (r := (27, .i2l, 1)) rfl
theorem dX16_makeCount_28 : decode cX16_makeCount 28 = .ok (.iconst 2, 1) := dk_get daX16_makeCount 16 (r := (28, .iconst 2, 1)) rfl
theorem dX16_makeCount_29 : decode cX16_makeCount 29 = .ok (.invokevirtual 726, 3) := dk_get daX16_makeCount 17 (r := (29, .invokevirtual 726, 3)) rfl
theorem dX16_makeCount_32 : decode cX16_makeCount 32 = .ok (.return_, 1) := dk_get daX16_makeCount 18 (r := (32, .return_, 1)) rfl
abbrev mX16_makeTx : ks_M := (RX16, cX16_makeTx, 3, none, "makeTx")
def drX16_makeTx : List (Nat × Instr × Nat) := [(0, .aload_n 0, 1), (1, .aload_n 0, 1), (2, .getfield 729, 3), (5, .iload_n 1, 1), (6, .laload, 1), (7, .iconst 4, 1), (8, .invokevirtual 726, 3), (11, .aload_n 0, 1), (12, .aload_n 0, 1), (13, .getfield 732, 3), (16, .iload_n 1, 1), (17, .iaload, 1), (18, .invokevirtual 735, 3), (21, .bipush 6, 2), (23, .iload_n 1, 1), (24, .imul, 1), (25, .istore_n 2, 1), (26, .iload_n 2, 1), (27, .bipush 6, 2), (29, .iload_n 1, 1), (30, .imul, 1), (31, .aload_n 0, 1), (32, .getfield 732, 3), (35, .iload_n 1, 1), (36, .iaload, 1), (37, .iadd, 1), (38, .if_icmp .ge 61, 3), (41, .aload_n 0, 1), (42, .aload_n 0, 1), (43, .getfield 738, 3), (46, .bipush 36, 2), (48, .iload_n 2, 1), (49, .imul, 1), (50, .bipush 36, 2), (52, .invokevirtual 741, 3), (55, .aload_n 0, 1), (56, .aload_n 0, 1), (57, .getfield 743, 3), (60, .iload_n 2, 1), (61, .iaload, 1), (62, .invokevirtual 735, 3), (65, .aload_n 0, 1), (66, .aload_n 0, 1), (67, .getfield 746, 3), (70, .iload_n 2, 1), (71, .aaload, 1), (72, .iconst 0, 1), (73, .aload_n 0, 1), (74, .getfield 743, 3), (77, .iload_n 2, 1), (78, .iaload, 1), (79, .invokevirtual 741, 3), (82, .aload_n 0, 1), (83, .aload_n 0, 1), (84, .getfield 749, 3), (87, .iload_n 2, 1), (88, .laload, 1), (89, .iconst 4, 1), (90, .invokevirtual 726, 3), (93, .iinc 2 1, 3), (96, .goto (-70), 3), (99, .aload_n 0, 1), (100, .aload_n 0, 1), (101, .getfield 752, 3), (104, .iload_n 1, 1), (105, .iaload, 1), (106, .invokevirtual 735, 3), (109, .bipush 6, 2), (111, .iload_n 1, 1), (112, .imul, 1), (113, .istore_n 2, 1), (114, .iload_n 2, 1), (115, .bipush 6, 2), (117, .iload_n 1, 1), (118, .imul, 1), (119, .aload_n 0, 1), (120, .getfield 752, 3), (123, .iload_n 1, 1), (124, .iaload, 1), (125, .iadd, 1), (126, .if_icmp .ge 48, 3), (129, .aload_n 0, 1), (130, .aload_n 0, 1), (131, .getfield 755, 3), (134, .iload_n 2, 1), (135, .laload, 1), (136, .bipush 8, 2), (138, .invokevirtual 726, 3), (141, .aload_n 0, 1), (142, .aload_n 0, 1), (143, .getfield 758, 3), (146, .iload_n 2, 1), (147, .iaload, 1), (148, .invokevirtual 735, 3), (151, .aload_n 0, 1), (152, .aload_n 0, 1), (153, .getfield 761, 3), (156, .iload_n 2, 1), (157, .aaload, 1), (158, .iconst 0, 1), (159, .aload_n 0, 1), (160, .getfield 758, 3), (163, .iload_n 2, 1), (164, .iaload, 1), (165, .invokevirtual 741, 3), (168, .iinc 2 1, 3), (171, .goto (-57), 3), (174, .aload_n 0, 1), (175, .aload_n 0, 1), (176, .getfield 764, 3), (179, .iload_n 1, 1), (180, .laload, 1), (181, .iconst 4, 1), (182, .invokevirtual 726, 3), (185, .return_, 1)]
set_option maxRecDepth 100000 in
theorem daX16_makeTx : dk_all cX16_makeTx drX16_makeTx = true := by decide +kernel
theorem dX16_makeTx_0 : decode cX16_makeTx 0 = .ok (.aload_n 0, 1) := dk_get daX16_makeTx 0 (r := (0, .aload_n 0, 1)) rfl
theorem dX16_makeTx_1 : decode cX16_makeTx 1 = .ok (.aload_n 0, 1) := dk_get daX16_makeTx 1 (r := (1, .aload_n 0, 1)) rfl
theorem dX16_makeTx_2 : decode cX16_makeTx 2 = .ok (.getfield 729, 3) := dk_get daX16_makeTx 2 (r := (2, .getfield 729, 3)) rfl
theorem dX16_makeTx_5 : decode cX16_makeTx 5 = .ok (.iload_n 1, 1) := dk_get daX16_makeTx 3 (r := (5, .iload_n 1, 1)) rfl
theorem dX16_makeTx_6 : decode cX16_makeTx 6 = .ok (.laload, 1) := dk_get daX16_makeTx 4 (r := (6, .laload, 1)) rfl
theorem dX16_makeTx_7 : decode cX16_makeTx 7 = .ok (.iconst 4, 1) := dk_get daX16_makeTx 5 (r := (7, .iconst 4, 1)) rfl
theorem dX16_makeTx_8 : decode cX16_makeTx 8 = .ok (.invokevirtual 726, 3) := dk_get daX16_makeTx 6 (r := (8, .invokevirtual 726, 3)) rfl
theorem dX16_makeTx_11 : decode cX16_makeTx 11 = .ok (.aload_n 0, 1) := dk_get daX16_makeTx 7 (r := (11, .aload_n 0, 1)) rfl
theorem dX16_makeTx_12 : decode cX16_makeTx 12 = .ok (.aload_n 0, 1) := dk_get daX16_makeTx 8 (r := (12, .aload_n 0, 1)) rfl
theorem dX16_makeTx_13 : decode cX16_makeTx 13 = .ok (.getfield 732, 3) := dk_get daX16_makeTx 9 (r := (13, .getfield 732, 3)) rfl
theorem dX16_makeTx_16 : decode cX16_makeTx 16 = .ok (.iload_n 1, 1) := dk_get daX16_makeTx 10 (r := (16, .iload_n 1, 1)) rfl
theorem dX16_makeTx_17 : decode cX16_makeTx 17 = .ok (.iaload, 1) := dk_get daX16_makeTx 11 (r := (17, .iaload, 1)) rfl
theorem dX16_makeTx_18 : decode cX16_makeTx 18 = .ok (.invokevirtual 735, 3) := dk_get daX16_makeTx 12 (r := (18, .invokevirtual 735, 3)) rfl
theorem dX16_makeTx_21 : decode cX16_makeTx 21 = .ok (.bipush 6, 2) := dk_get daX16_makeTx 13 (r := (21, .bipush 6, 2)) rfl
theorem dX16_makeTx_23 : decode cX16_makeTx 23 = .ok (.iload_n 1, 1) := dk_get daX16_makeTx 14 (r := (23, .iload_n 1, 1)) rfl
theorem dX16_makeTx_24 : decode cX16_makeTx 24 = .ok (.imul, 1) := dk_get daX16_makeTx 15 (r := (24, .imul, 1)) rfl
theorem dX16_makeTx_25 : decode cX16_makeTx 25 = .ok (.istore_n 2, 1) := dk_get daX16_makeTx 16 (r := (25, .istore_n 2, 1)) rfl
theorem dX16_makeTx_26 : decode cX16_makeTx 26 = .ok (.iload_n 2, 1) := dk_get daX16_makeTx 17 (r := (26, .iload_n 2, 1)) rfl
theorem dX16_makeTx_27 : decode cX16_makeTx 27 = .ok (.bipush 6, 2) := dk_get daX16_makeTx 18 (r := (27, .bipush 6, 2)) rfl
theorem dX16_makeTx_29 : decode cX16_makeTx 29 = .ok (.iload_n 1, 1) := dk_get daX16_makeTx 19 (r := (29, .iload_n 1, 1)) rfl
theorem dX16_makeTx_30 : decode cX16_makeTx 30 = .ok (.imul, 1) := dk_get daX16_makeTx 20 (r := (30, .imul, 1)) rfl
theorem dX16_makeTx_31 : decode cX16_makeTx 31 = .ok (.aload_n 0, 1) := dk_get daX16_makeTx 21 (r := (31, .aload_n 0, 1)) rfl
theorem dX16_makeTx_32 : decode cX16_makeTx 32 = .ok (.getfield 732, 3) := dk_get daX16_makeTx 22 (r := (32, .getfield 732, 3)) rfl
theorem dX16_makeTx_35 : decode cX16_makeTx 35 = .ok (.iload_n 1, 1) := dk_get daX16_makeTx 23 (r := (35, .iload_n 1, 1)) rfl
theorem dX16_makeTx_36 : decode cX16_makeTx 36 = .ok (.iaload, 1) := dk_get daX16_makeTx 24 (r := (36, .iaload, 1)) rfl
theorem dX16_makeTx_37 : decode cX16_makeTx 37 = .ok (.iadd, 1) := dk_get daX16_makeTx 25 (r := (37, .iadd, 1)) rfl
theorem dX16_makeTx_38 : decode cX16_makeTx 38 = .ok (.if_icmp .ge 61, 3) := dk_get daX16_makeTx 26 (r := (38, .if_icmp .ge 61, 3)) rfl
theorem dX16_makeTx_41 : decode cX16_makeTx 41 = .ok (.aload_n 0, 1) := dk_get daX16_makeTx 27 (r := (41, .aload_n 0, 1)) rfl
theorem dX16_makeTx_42 : decode cX16_makeTx 42 = .ok (.aload_n 0, 1) := dk_get daX16_makeTx 28 (r := (42, .aload_n 0, 1)) rfl
theorem dX16_makeTx_43 : decode cX16_makeTx 43 = .ok (.getfield 738, 3) := dk_get daX16_makeTx 29 (r := (43, .getfield 738, 3)) rfl
theorem dX16_makeTx_46 : decode cX16_makeTx 46 = .ok (.bipush 36, 2) := dk_get daX16_makeTx 30 (r := (46, .bipush 36, 2)) rfl
theorem dX16_makeTx_48 : decode cX16_makeTx 48 = .ok (.iload_n 2, 1) := dk_get daX16_makeTx 31 (r := (48, .iload_n 2, 1)) rfl
theorem dX16_makeTx_49 : decode cX16_makeTx 49 = .ok (.imul, 1) := dk_get daX16_makeTx 32 (r := (49, .imul, 1)) rfl
theorem dX16_makeTx_50 : decode cX16_makeTx 50 = .ok (.bipush 36, 2) := dk_get daX16_makeTx 33 (r := (50, .bipush 36, 2)) rfl
theorem dX16_makeTx_52 : decode cX16_makeTx 52 = .ok (.invokevirtual 741, 3) := dk_get daX16_makeTx 34 (r := (52, .invokevirtual 741, 3)) rfl
theorem dX16_makeTx_55 : decode cX16_makeTx 55 = .ok (.aload_n 0, 1) := dk_get daX16_makeTx 35 (r := (55, .aload_n 0, 1)) rfl
theorem dX16_makeTx_56 : decode cX16_makeTx 56 = .ok (.aload_n 0, 1) := dk_get daX16_makeTx 36 (r := (56, .aload_n 0, 1)) rfl
theorem dX16_makeTx_57 : decode cX16_makeTx 57 = .ok (.getfield 743, 3) := dk_get daX16_makeTx 37 (r := (57, .getfield 743, 3)) rfl
theorem dX16_makeTx_60 : decode cX16_makeTx 60 = .ok (.iload_n 2, 1) := dk_get daX16_makeTx 38 (r := (60, .iload_n 2, 1)) rfl
theorem dX16_makeTx_61 : decode cX16_makeTx 61 = .ok (.iaload, 1) := dk_get daX16_makeTx 39 (r := (61, .iaload, 1)) rfl
theorem dX16_makeTx_62 : decode cX16_makeTx 62 = .ok (.invokevirtual 735, 3) := dk_get daX16_makeTx 40 (r := (62, .invokevirtual 735, 3)) rfl
theorem dX16_makeTx_65 : decode cX16_makeTx 65 = .ok (.aload_n 0, 1) := dk_get daX16_makeTx 41 (r := (65, .aload_n 0, 1)) rfl
theorem dX16_makeTx_66 : decode cX16_makeTx 66 = .ok (.aload_n 0, 1) := dk_get daX16_makeTx 42 (r := (66, .aload_n 0, 1)) rfl
theorem dX16_makeTx_67 : decode cX16_makeTx 67 = .ok (.getfield 746, 3) := dk_get daX16_makeTx 43 (r := (67, .getfield 746, 3)) rfl
theorem dX16_makeTx_70 : decode cX16_makeTx 70 = .ok (.iload_n 2, 1) := dk_get daX16_makeTx 44 (r := (70, .iload_n 2, 1)) rfl
theorem dX16_makeTx_71 : decode cX16_makeTx 71 = .ok (.aaload, 1) := dk_get daX16_makeTx 45 (r := (71, .aaload, 1)) rfl
theorem dX16_makeTx_72 : decode cX16_makeTx 72 = .ok (.iconst 0, 1) := dk_get daX16_makeTx 46 (r := (72, .iconst 0, 1)) rfl
theorem dX16_makeTx_73 : decode cX16_makeTx 73 = .ok (.aload_n 0, 1) := dk_get daX16_makeTx 47 (r := (73, .aload_n 0, 1)) rfl
theorem dX16_makeTx_74 : decode cX16_makeTx 74 = .ok (.getfield 743, 3) := dk_get daX16_makeTx 48 (r := (74, .getfield 743, 3)) rfl
theorem dX16_makeTx_77 : decode cX16_makeTx 77 = .ok (.iload_n 2, 1) := dk_get daX16_makeTx 49 (r := (77, .iload_n 2, 1)) rfl
theorem dX16_makeTx_78 : decode cX16_makeTx 78 = .ok (.iaload, 1) := dk_get daX16_makeTx 50 (r := (78, .iaload, 1)) rfl
theorem dX16_makeTx_79 : decode cX16_makeTx 79 = .ok (.invokevirtual 741, 3) := dk_get daX16_makeTx 51 (r := (79, .invokevirtual 741, 3)) rfl
theorem dX16_makeTx_82 : decode cX16_makeTx 82 = .ok (.aload_n 0, 1) := dk_get daX16_makeTx 52 (r := (82, .aload_n 0, 1)) rfl
theorem dX16_makeTx_83 : decode cX16_makeTx 83 = .ok (.aload_n 0, 1) := dk_get daX16_makeTx 53 (r := (83, .aload_n 0, 1)) rfl
theorem dX16_makeTx_84 : decode cX16_makeTx 84 = .ok (.getfield 749, 3) := dk_get daX16_makeTx 54 (r := (84, .getfield 749, 3)) rfl
theorem dX16_makeTx_87 : decode cX16_makeTx 87 = .ok (.iload_n 2, 1) := dk_get daX16_makeTx 55 (r := (87, .iload_n 2, 1)) rfl
theorem dX16_makeTx_88 : decode cX16_makeTx 88 = .ok (.laload, 1) := dk_get daX16_makeTx 56 (r := (88, .laload, 1)) rfl
theorem dX16_makeTx_89 : decode cX16_makeTx 89 = .ok (.iconst 4, 1) := dk_get daX16_makeTx 57 (r := (89, .iconst 4, 1)) rfl
theorem dX16_makeTx_90 : decode cX16_makeTx 90 = .ok (.invokevirtual 726, 3) := dk_get daX16_makeTx 58 (r := (90, .invokevirtual 726, 3)) rfl
theorem dX16_makeTx_93 : decode cX16_makeTx 93 = .ok (.iinc 2 1, 3) := dk_get daX16_makeTx 59 (r := (93, .iinc 2 1, 3)) rfl
theorem dX16_makeTx_96 : decode cX16_makeTx 96 = .ok (.goto (-70), 3) := dk_get daX16_makeTx 60 (r := (96, .goto (-70), 3)) rfl
theorem dX16_makeTx_99 : decode cX16_makeTx 99 = .ok (.aload_n 0, 1) := dk_get daX16_makeTx 61 (r := (99, .aload_n 0, 1)) rfl
theorem dX16_makeTx_100 : decode cX16_makeTx 100 = .ok (.aload_n 0, 1) := dk_get daX16_makeTx 62 (r := (100, .aload_n 0, 1)) rfl
theorem dX16_makeTx_101 : decode cX16_makeTx 101 = .ok (.getfield 752, 3) := dk_get daX16_makeTx 63 (r := (101, .getfield 752, 3)) rfl
theorem dX16_makeTx_104 : decode cX16_makeTx 104 = .ok (.iload_n 1, 1) := dk_get daX16_makeTx 64 (r := (104, .iload_n 1, 1)) rfl
theorem dX16_makeTx_105 : decode cX16_makeTx 105 = .ok (.iaload, 1) := dk_get daX16_makeTx 65 (r := (105, .iaload, 1)) rfl
theorem dX16_makeTx_106 : decode cX16_makeTx 106 = .ok (.invokevirtual 735, 3) := dk_get daX16_makeTx 66 (r := (106, .invokevirtual 735, 3)) rfl
theorem dX16_makeTx_109 : decode cX16_makeTx 109 = .ok (.bipush 6, 2) := dk_get daX16_makeTx 67 (r := (109, .bipush 6, 2)) rfl
theorem dX16_makeTx_111 : decode cX16_makeTx 111 = .ok (.iload_n 1, 1) := dk_get daX16_makeTx 68 (r := (111, .iload_n 1, 1)) rfl
theorem dX16_makeTx_112 : decode cX16_makeTx 112 = .ok (.imul, 1) := dk_get daX16_makeTx 69 (r := (112, .imul, 1)) rfl
theorem dX16_makeTx_113 : decode cX16_makeTx 113 = .ok (.istore_n 2, 1) := dk_get daX16_makeTx 70 (r := (113, .istore_n 2, 1)) rfl
theorem dX16_makeTx_114 : decode cX16_makeTx 114 = .ok (.iload_n 2, 1) := dk_get daX16_makeTx 71 (r := (114, .iload_n 2, 1)) rfl
theorem dX16_makeTx_115 : decode cX16_makeTx 115 = .ok (.bipush 6, 2) := dk_get daX16_makeTx 72 (r := (115, .bipush 6, 2)) rfl
theorem dX16_makeTx_117 : decode cX16_makeTx 117 = .ok (.iload_n 1, 1) := dk_get daX16_makeTx 73 (r := (117, .iload_n 1, 1)) rfl
theorem dX16_makeTx_118 : decode cX16_makeTx 118 = .ok (.imul, 1) := dk_get daX16_makeTx 74 (r := (118, .imul, 1)) rfl
theorem dX16_makeTx_119 : decode cX16_makeTx 119 = .ok (.aload_n 0, 1) := dk_get daX16_makeTx 75 (r := (119, .aload_n 0, 1)) rfl
theorem dX16_makeTx_120 : decode cX16_makeTx 120 = .ok (.getfield 752, 3) := dk_get daX16_makeTx 76 (r := (120, .getfield 752, 3)) rfl
theorem dX16_makeTx_123 : decode cX16_makeTx 123 = .ok (.iload_n 1, 1) := dk_get daX16_makeTx 77 (r := (123, .iload_n 1, 1)) rfl
theorem dX16_makeTx_124 : decode cX16_makeTx 124 = .ok (.iaload, 1) := dk_get daX16_makeTx 78 (r := (124, .iaload, 1)) rfl
theorem dX16_makeTx_125 : decode cX16_makeTx 125 = .ok (.iadd, 1) := dk_get daX16_makeTx 79 (r := (125, .iadd, 1)) rfl
theorem dX16_makeTx_126 : decode cX16_makeTx 126 = .ok (.if_icmp .ge 48, 3) := dk_get daX16_makeTx 80 (r := (126, .if_icmp .ge 48, 3)) rfl
theorem dX16_makeTx_129 : decode cX16_makeTx 129 = .ok (.aload_n 0, 1) := dk_get daX16_makeTx 81 (r := (129, .aload_n 0, 1)) rfl
theorem dX16_makeTx_130 : decode cX16_makeTx 130 = .ok (.aload_n 0, 1) := dk_get daX16_makeTx 82 (r := (130, .aload_n 0, 1)) rfl
theorem dX16_makeTx_131 : decode cX16_makeTx 131 = .ok (.getfield 755, 3) := dk_get daX16_makeTx 83 (r := (131, .getfield 755, 3)) rfl
theorem dX16_makeTx_134 : decode cX16_makeTx 134 = .ok (.iload_n 2, 1) := dk_get daX16_makeTx 84 (r := (134, .iload_n 2, 1)) rfl
theorem dX16_makeTx_135 : decode cX16_makeTx 135 = .ok (.laload, 1) := dk_get daX16_makeTx 85 (r := (135, .laload, 1)) rfl
theorem dX16_makeTx_136 : decode cX16_makeTx 136 = .ok (.bipush 8, 2) := dk_get daX16_makeTx 86 (r := (136, .bipush 8, 2)) rfl
theorem dX16_makeTx_138 : decode cX16_makeTx 138 = .ok (.invokevirtual 726, 3) := dk_get daX16_makeTx 87 (r := (138, .invokevirtual 726, 3)) rfl
theorem dX16_makeTx_141 : decode cX16_makeTx 141 = .ok (.aload_n 0, 1) := dk_get daX16_makeTx 88 (r := (141, .aload_n 0, 1)) rfl
theorem dX16_makeTx_142 : decode cX16_makeTx 142 = .ok (.aload_n 0, 1) := dk_get daX16_makeTx 89 (r := (142, .aload_n 0, 1)) rfl
theorem dX16_makeTx_143 : decode cX16_makeTx 143 = .ok (.getfield 758, 3) := dk_get daX16_makeTx 90 (r := (143, .getfield 758, 3)) rfl
theorem dX16_makeTx_146 : decode cX16_makeTx 146 = .ok (.iload_n 2, 1) := dk_get daX16_makeTx 91 (r := (146, .iload_n 2, 1)) rfl
theorem dX16_makeTx_147 : decode cX16_makeTx 147 = .ok (.iaload, 1) := dk_get daX16_makeTx 92 (r := (147, .iaload, 1)) rfl
theorem dX16_makeTx_148 : decode cX16_makeTx 148 = .ok (.invokevirtual 735, 3) := dk_get daX16_makeTx 93 (r := (148, .invokevirtual 735, 3)) rfl
theorem dX16_makeTx_151 : decode cX16_makeTx 151 = .ok (.aload_n 0, 1) := dk_get daX16_makeTx 94 (r := (151, .aload_n 0, 1)) rfl
theorem dX16_makeTx_152 : decode cX16_makeTx 152 = .ok (.aload_n 0, 1) := dk_get daX16_makeTx 95 (r := (152, .aload_n 0, 1)) rfl
theorem dX16_makeTx_153 : decode cX16_makeTx 153 = .ok (.getfield 761, 3) := dk_get daX16_makeTx 96 (r := (153, .getfield 761, 3)) rfl
theorem dX16_makeTx_156 : decode cX16_makeTx 156 = .ok (.iload_n 2, 1) := dk_get daX16_makeTx 97 (r := (156, .iload_n 2, 1)) rfl
theorem dX16_makeTx_157 : decode cX16_makeTx 157 = .ok (.aaload, 1) := dk_get daX16_makeTx 98 (r := (157, .aaload, 1)) rfl
theorem dX16_makeTx_158 : decode cX16_makeTx 158 = .ok (.iconst 0, 1) := dk_get daX16_makeTx 99 (r := (158, .iconst 0, 1)) rfl
theorem dX16_makeTx_159 : decode cX16_makeTx 159 = .ok (.aload_n 0, 1) := dk_get daX16_makeTx 100 (r := (159, .aload_n 0, 1)) rfl
theorem dX16_makeTx_160 : decode cX16_makeTx 160 = .ok (.getfield 758, 3) := dk_get daX16_makeTx 101 (r := (160, .getfield 758, 3)) rfl
theorem dX16_makeTx_163 : decode cX16_makeTx 163 = .ok (.iload_n 2, 1) := dk_get daX16_makeTx 102 (r := (163, .iload_n 2, 1)) rfl
theorem dX16_makeTx_164 : decode cX16_makeTx 164 = .ok (.iaload, 1) := dk_get daX16_makeTx 103 (r := (164, .iaload, 1)) rfl
theorem dX16_makeTx_165 : decode cX16_makeTx 165 = .ok (.invokevirtual 741, 3) := dk_get daX16_makeTx 104 (r := (165, .invokevirtual 741, 3)) rfl
theorem dX16_makeTx_168 : decode cX16_makeTx 168 = .ok (.iinc 2 1, 3) := dk_get daX16_makeTx 105 (r := (168, .iinc 2 1, 3)) rfl
theorem dX16_makeTx_171 : decode cX16_makeTx 171 = .ok (.goto (-57), 3) := dk_get daX16_makeTx 106 (r := (171, .goto (-57), 3)) rfl
theorem dX16_makeTx_174 : decode cX16_makeTx 174 = .ok (.aload_n 0, 1) := dk_get daX16_makeTx 107 (r := (174, .aload_n 0, 1)) rfl
theorem dX16_makeTx_175 : decode cX16_makeTx 175 = .ok (.aload_n 0, 1) := dk_get daX16_makeTx 108 (r := (175, .aload_n 0, 1)) rfl
theorem dX16_makeTx_176 : decode cX16_makeTx 176 = .ok (.getfield 764, 3) := dk_get daX16_makeTx 109 (r := (176, .getfield 764, 3)) rfl
theorem dX16_makeTx_179 : decode cX16_makeTx 179 = .ok (.iload_n 1, 1) := dk_get daX16_makeTx 110 (r := (179, .iload_n 1, 1)) rfl
theorem dX16_makeTx_180 : decode cX16_makeTx 180 = .ok (.laload, 1) := dk_get daX16_makeTx 111 (r := (180, .laload, 1)) rfl
theorem dX16_makeTx_181 : decode cX16_makeTx 181 = .ok (.iconst 4, 1) := dk_get daX16_makeTx 112 (r := (181, .iconst 4, 1)) rfl
theorem dX16_makeTx_182 : decode cX16_makeTx 182 = .ok (.invokevirtual 726, 3) := dk_get daX16_makeTx 113 (r := (182, .invokevirtual 726, 3)) rfl
theorem dX16_makeTx_185 : decode cX16_makeTx 185 = .ok (.return_, 1) := dk_get daX16_makeTx 114 (r := (185, .return_, 1)) rfl
abbrev mX16_draftId : ks_M := (RX16, cX16_draftId, 2, none, "draftId")
def drX16_draftId : List (Nat × Instr × Nat) := [(0, .aload_n 0, 1), (1, .iconst 0, 1), (2, .putfield 723, 3), (5, .aload_n 0, 1), (6, .iload_n 1, 1), (7, .invokevirtual 767, 3), (10, .aload_n 0, 1), (11, .aload_n 0, 1), (12, .getfield 720, 3), (15, .iconst 0, 1), (16, .aload_n 0, 1), (17, .getfield 723, 3), (20, .aload_n 0, 1), (21, .getfield 770, 3), (24, .bipush 32, 2), (26, .iload_n 1, 1), (27, .imul, 1), (28, .invokevirtual 319, 3), (31, .return_, 1)]
set_option maxRecDepth 100000 in
theorem daX16_draftId : dk_all cX16_draftId drX16_draftId = true := by decide +kernel
theorem dX16_draftId_0 : decode cX16_draftId 0 = .ok (.aload_n 0, 1) := dk_get daX16_draftId 0 (r := (0, .aload_n 0, 1)) rfl
theorem dX16_draftId_1 : decode cX16_draftId 1 = .ok (.iconst 0, 1) := dk_get daX16_draftId 1 (r := (1, .iconst 0, 1)) rfl
theorem dX16_draftId_2 : decode cX16_draftId 2 = .ok (.putfield 723, 3) := dk_get daX16_draftId 2 (r := (2, .putfield 723, 3)) rfl
theorem dX16_draftId_5 : decode cX16_draftId 5 = .ok (.aload_n 0, 1) := dk_get daX16_draftId 3 (r := (5, .aload_n 0, 1)) rfl
theorem dX16_draftId_6 : decode cX16_draftId 6 = .ok (.iload_n 1, 1) := dk_get daX16_draftId 4 (r := (6, .iload_n 1, 1)) rfl
theorem dX16_draftId_7 : decode cX16_draftId 7 = .ok (.invokevirtual 767, 3) := dk_get daX16_draftId 5 (r := (7, .invokevirtual 767, 3)) rfl
theorem dX16_draftId_10 : decode cX16_draftId 10 = .ok (.aload_n 0, 1) := dk_get daX16_draftId 6 (r := (10, .aload_n 0, 1)) rfl
theorem dX16_draftId_11 : decode cX16_draftId 11 = .ok (.aload_n 0, 1) := dk_get daX16_draftId 7 (r := (11, .aload_n 0, 1)) rfl
theorem dX16_draftId_12 : decode cX16_draftId 12 = .ok (.getfield 720, 3) := dk_get daX16_draftId 8 (r := (12, .getfield 720, 3)) rfl
theorem dX16_draftId_15 : decode cX16_draftId 15 = .ok (.iconst 0, 1) := dk_get daX16_draftId 9 (r := (15, .iconst 0, 1)) rfl
theorem dX16_draftId_16 : decode cX16_draftId 16 = .ok (.aload_n 0, 1) := dk_get daX16_draftId 10 (r := (16, .aload_n 0, 1)) rfl
theorem dX16_draftId_17 : decode cX16_draftId 17 = .ok (.getfield 723, 3) := dk_get daX16_draftId 11 (r := (17, .getfield 723, 3)) rfl
theorem dX16_draftId_20 : decode cX16_draftId 20 = .ok (.aload_n 0, 1) := dk_get daX16_draftId 12 (r := (20, .aload_n 0, 1)) rfl
theorem dX16_draftId_21 : decode cX16_draftId 21 = .ok (.getfield 770, 3) := dk_get daX16_draftId 13 (r := (21, .getfield 770, 3)) rfl
theorem dX16_draftId_24 : decode cX16_draftId 24 = .ok (.bipush 32, 2) := dk_get daX16_draftId 14 (r := (24, .bipush 32, 2)) rfl
theorem dX16_draftId_26 : decode cX16_draftId 26 = .ok (.iload_n 1, 1) := dk_get daX16_draftId 15 (r := (26, .iload_n 1, 1)) rfl
theorem dX16_draftId_27 : decode cX16_draftId 27 = .ok (.imul, 1) := dk_get daX16_draftId 16 (r := (27, .imul, 1)) rfl
theorem dX16_draftId_28 : decode cX16_draftId 28 = .ok (.invokevirtual 319, 3) := dk_get daX16_draftId 17 (r := (28, .invokevirtual 319, 3)) rfl
theorem dX16_draftId_31 : decode cX16_draftId 31 = .ok (.return_, 1) := dk_get daX16_draftId 18 (r := (31, .return_, 1)) rfl
abbrev mX16_thrown : ks_M := (RX16, cX16_thrown, 1, (some .int), "thrown")
def drX16_thrown : List (Nat × Instr × Nat) := [(0, .aload_n 0, 1), (1, .getfield 888, 3), (4, .ireturn, 1)]
set_option maxRecDepth 100000 in
theorem daX16_thrown : dk_all cX16_thrown drX16_thrown = true := by decide +kernel
theorem dX16_thrown_0 : decode cX16_thrown 0 = .ok (.aload_n 0, 1) := dk_get daX16_thrown 0 (r := (0, .aload_n 0, 1)) rfl
theorem dX16_thrown_1 : decode cX16_thrown 1 = .ok (.getfield 888, 3) := dk_get daX16_thrown 1 (r := (1, .getfield 888, 3)) rfl
theorem dX16_thrown_4 : decode cX16_thrown 4 = .ok (.ireturn, 1) := dk_get daX16_thrown 2 (r := (4, .ireturn, 1)) rfl
abbrev mX16_good : ks_M := (RX16, cX16_good, 3, (some .boolean), "good")
def drX16_good : List (Nat × Instr × Nat) := [(0, .aload_n 0, 1), (1, .iload_n 1, 1), (2, .ifCond .eq 7, 3), (5, .iconst 0, 1), (6, .goto 4, 3), (9, .iload_n 2, 1), (10, .putfield 888, 3), (13, .iload_n 1, 1), (14, .ireturn, 1)]
set_option maxRecDepth 100000 in
theorem daX16_good : dk_all cX16_good drX16_good = true := by decide +kernel
theorem dX16_good_0 : decode cX16_good 0 = .ok (.aload_n 0, 1) := dk_get daX16_good 0 (r := (0, .aload_n 0, 1)) rfl
theorem dX16_good_1 : decode cX16_good 1 = .ok (.iload_n 1, 1) := dk_get daX16_good 1 (r := (1, .iload_n 1, 1)) rfl
theorem dX16_good_2 : decode cX16_good 2 = .ok (.ifCond .eq 7, 3) := dk_get daX16_good 2 (r := (2, .ifCond .eq 7, 3)) rfl
theorem dX16_good_5 : decode cX16_good 5 = .ok (.iconst 0, 1) := dk_get daX16_good 3 (r := (5, .iconst 0, 1)) rfl
theorem dX16_good_6 : decode cX16_good 6 = .ok (.goto 4, 3) := dk_get daX16_good 4 (r := (6, .goto 4, 3)) rfl
theorem dX16_good_9 : decode cX16_good 9 = .ok (.iload_n 2, 1) := dk_get daX16_good 5 (r := (9, .iload_n 2, 1)) rfl
theorem dX16_good_10 : decode cX16_good 10 = .ok (.putfield 888, 3) := dk_get daX16_good 6 (r := (10, .putfield 888, 3)) rfl
theorem dX16_good_13 : decode cX16_good 13 = .ok (.iload_n 1, 1) := dk_get daX16_good 7 (r := (13, .iload_n 1, 1)) rfl
theorem dX16_good_14 : decode cX16_good 14 = .ok (.ireturn, 1) := dk_get daX16_good 8 (r := (14, .ireturn, 1)) rfl
abbrev mX16_feed : ks_M := (RX16, cX16_feed, 6, (some .int), "feed")
def drX16_feed : List (Nat × Instr × Nat) := [(0, .aload_n 0, 1), (1, .aload_n 0, 1), (2, .getfield 862, 3), (5, .bipush 20, 2), (7, .iadd, 1), (8, .sipush 1600, 3), (11, .if_icmp .gt 7, 3), (14, .iconst 1, 1), (15, .goto 4, 3), (18, .iconst 0, 1), (19, .iconst 1, 1), (20, .invokevirtual 891, 3), (23, .ifCond .ne 5, 3), (26, .iconst 0, 1), (27, .ireturn, 1), (28, .aload_n 0, 1), (29, .iload_n 1, 1), (30, .invokevirtual 895, 3), (33, .aload_n 0, 1), (34, .iload_n 2, 1), (35, .invokevirtual 895, 3), (38, .aload_n 0, 1), (39, .iload_n 3, 1), (40, .invokevirtual 895, 3), (43, .aload_n 0, 1), (44, .iload 4, 2), (46, .invokevirtual 895, 3), (49, .aload_n 0, 1), (50, .iload 5, 2), (52, .invokevirtual 895, 3), (55, .aload_n 0, 1), (56, .getfield 862, 3), (59, .ireturn, 1)]
set_option maxRecDepth 100000 in
theorem daX16_feed : dk_all cX16_feed drX16_feed = true := by decide +kernel
theorem dX16_feed_0 : decode cX16_feed 0 = .ok (.aload_n 0, 1) := dk_get daX16_feed 0 (r := (0, .aload_n 0, 1)) rfl
theorem dX16_feed_1 : decode cX16_feed 1 = .ok (.aload_n 0, 1) := dk_get daX16_feed 1 (r := (1, .aload_n 0, 1)) rfl
theorem dX16_feed_2 : decode cX16_feed 2 = .ok (.getfield 862, 3) := dk_get daX16_feed 2 (r := (2, .getfield 862, 3)) rfl
theorem dX16_feed_5 : decode cX16_feed 5 = .ok (.bipush 20, 2) := dk_get daX16_feed 3 (r := (5, .bipush 20, 2)) rfl
theorem dX16_feed_7 : decode cX16_feed 7 = .ok (.iadd, 1) := dk_get daX16_feed 4 (r := (7, .iadd, 1)) rfl
theorem dX16_feed_8 : decode cX16_feed 8 = .ok (.sipush 1600, 3) := dk_get daX16_feed 5 (r := (8, .sipush 1600, 3)) rfl
theorem dX16_feed_11 : decode cX16_feed 11 = .ok (.if_icmp .gt 7, 3) := dk_get daX16_feed 6 (r := (11, .if_icmp .gt 7, 3)) rfl
theorem dX16_feed_14 : decode cX16_feed 14 = .ok (.iconst 1, 1) := dk_get daX16_feed 7 (r := (14, .iconst 1, 1)) rfl
theorem dX16_feed_15 : decode cX16_feed 15 = .ok (.goto 4, 3) := dk_get daX16_feed 8 (r := (15, .goto 4, 3)) rfl
theorem dX16_feed_18 : decode cX16_feed 18 = .ok (.iconst 0, 1) := dk_get daX16_feed 9 (r := (18, .iconst 0, 1)) rfl
theorem dX16_feed_19 : decode cX16_feed 19 = .ok (.iconst 1, 1) := dk_get daX16_feed 10 (r := (19, .iconst 1, 1)) rfl
theorem dX16_feed_20 : decode cX16_feed 20 = .ok (.invokevirtual 891, 3) := dk_get daX16_feed 11 (r := (20, .invokevirtual 891, 3)) rfl
theorem dX16_feed_23 : decode cX16_feed 23 = .ok (.ifCond .ne 5, 3) := dk_get daX16_feed 12 (r := (23, .ifCond .ne 5, 3)) rfl
theorem dX16_feed_26 : decode cX16_feed 26 = .ok (.iconst 0, 1) := dk_get daX16_feed 13 (r := (26, .iconst 0, 1)) rfl
theorem dX16_feed_27 : decode cX16_feed 27 = .ok (.ireturn, 1) := dk_get daX16_feed 14 (r := (27, .ireturn, 1)) rfl
theorem dX16_feed_28 : decode cX16_feed 28 = .ok (.aload_n 0, 1) := dk_get daX16_feed 15 (r := (28, .aload_n 0, 1)) rfl
theorem dX16_feed_29 : decode cX16_feed 29 = .ok (.iload_n 1, 1) := dk_get daX16_feed 16 (r := (29, .iload_n 1, 1)) rfl
theorem dX16_feed_30 : decode cX16_feed 30 = .ok (.invokevirtual 895, 3) := dk_get daX16_feed 17 (r := (30, .invokevirtual 895, 3)) rfl
theorem dX16_feed_33 : decode cX16_feed 33 = .ok (.aload_n 0, 1) := dk_get daX16_feed 18 (r := (33, .aload_n 0, 1)) rfl
theorem dX16_feed_34 : decode cX16_feed 34 = .ok (.iload_n 2, 1) := dk_get daX16_feed 19 (r := (34, .iload_n 2, 1)) rfl
theorem dX16_feed_35 : decode cX16_feed 35 = .ok (.invokevirtual 895, 3) := dk_get daX16_feed 20 (r := (35, .invokevirtual 895, 3)) rfl
theorem dX16_feed_38 : decode cX16_feed 38 = .ok (.aload_n 0, 1) := dk_get daX16_feed 21 (r := (38, .aload_n 0, 1)) rfl
theorem dX16_feed_39 : decode cX16_feed 39 = .ok (.iload_n 3, 1) := dk_get daX16_feed 22 (r := (39, .iload_n 3, 1)) rfl
theorem dX16_feed_40 : decode cX16_feed 40 = .ok (.invokevirtual 895, 3) := dk_get daX16_feed 23 (r := (40, .invokevirtual 895, 3)) rfl
theorem dX16_feed_43 : decode cX16_feed 43 = .ok (.aload_n 0, 1) := dk_get daX16_feed 24 (r := (43, .aload_n 0, 1)) rfl
theorem dX16_feed_44 : decode cX16_feed 44 = .ok (.iload 4, 2) := dk_get daX16_feed 25 (r := (44, .iload 4, 2)) rfl
theorem dX16_feed_46 : decode cX16_feed 46 = .ok (.invokevirtual 895, 3) := dk_get daX16_feed 26 (r := (46, .invokevirtual 895, 3)) rfl
theorem dX16_feed_49 : decode cX16_feed 49 = .ok (.aload_n 0, 1) := dk_get daX16_feed 27 (r := (49, .aload_n 0, 1)) rfl
theorem dX16_feed_50 : decode cX16_feed 50 = .ok (.iload 5, 2) := dk_get daX16_feed 28 (r := (50, .iload 5, 2)) rfl
theorem dX16_feed_52 : decode cX16_feed 52 = .ok (.invokevirtual 895, 3) := dk_get daX16_feed 29 (r := (52, .invokevirtual 895, 3)) rfl
theorem dX16_feed_55 : decode cX16_feed 55 = .ok (.aload_n 0, 1) := dk_get daX16_feed 30 (r := (55, .aload_n 0, 1)) rfl
theorem dX16_feed_56 : decode cX16_feed 56 = .ok (.getfield 862, 3) := dk_get daX16_feed 31 (r := (56, .getfield 862, 3)) rfl
theorem dX16_feed_59 : decode cX16_feed 59 = .ok (.ireturn, 1) := dk_get daX16_feed 32 (r := (59, .ireturn, 1)) rfl
abbrev mX16_four : ks_M := (RX16, cX16_four, 3, none, "four")
def drX16_four : List (Nat × Instr × Nat) := [(0, .bipush 24, 2), (2, .istore_n 2, 1), (3, .iload_n 2, 1), (4, .ifCond .lt 32, 3), (7, .aload_n 0, 1), (8, .getfield 801, 3), (11, .aload_n 0, 1), (12, .getfield 862, 3), (15, .iload_n 1, 1), (16, .iload_n 2, 1), (17, .ishr, 1), (18, .i2b, 1), (19, .bastore, 1), (20, .aload_n 0, 1), (21, .dup, 1), (22, .getfield 862, 3), (25, .iconst 1, 1), (26, .iadd, 1), (27, .putfield 862, 3), (30, .iinc 2 (-8), 3), (33, .goto (-30), 3), (36, .return_, 1)]
set_option maxRecDepth 100000 in
theorem daX16_four : dk_all cX16_four drX16_four = true := by decide +kernel
theorem dX16_four_0 : decode cX16_four 0 = .ok (.bipush 24, 2) := dk_get daX16_four 0 (r := (0, .bipush 24, 2)) rfl
theorem dX16_four_2 : decode cX16_four 2 = .ok (.istore_n 2, 1) := dk_get daX16_four 1 (r := (2, .istore_n 2, 1)) rfl
theorem dX16_four_3 : decode cX16_four 3 = .ok (.iload_n 2, 1) := dk_get daX16_four 2 (r := (3, .iload_n 2, 1)) rfl
theorem dX16_four_4 : decode cX16_four 4 = .ok (.ifCond .lt 32, 3) := dk_get daX16_four 3 (r := (4, .ifCond .lt 32, 3)) rfl
theorem dX16_four_7 : decode cX16_four 7 = .ok (.aload_n 0, 1) := dk_get daX16_four 4 (r := (7, .aload_n 0, 1)) rfl
theorem dX16_four_8 : decode cX16_four 8 = .ok (.getfield 801, 3) := dk_get daX16_four 5 (r := (8, .getfield 801, 3)) rfl
theorem dX16_four_11 : decode cX16_four 11 = .ok (.aload_n 0, 1) := dk_get daX16_four 6 (r := (11, .aload_n 0, 1)) rfl
theorem dX16_four_12 : decode cX16_four 12 = .ok (.getfield 862, 3) := dk_get daX16_four 7 (r := (12, .getfield 862, 3)) rfl
theorem dX16_four_15 : decode cX16_four 15 = .ok (.iload_n 1, 1) := dk_get daX16_four 8 (r := (15, .iload_n 1, 1)) rfl
theorem dX16_four_16 : decode cX16_four 16 = .ok (.iload_n 2, 1) := dk_get daX16_four 9 (r := (16, .iload_n 2, 1)) rfl
theorem dX16_four_17 : decode cX16_four 17 = .ok (.ishr, 1) := dk_get daX16_four 10 (r := (17, .ishr, 1)) rfl
theorem dX16_four_18 : decode cX16_four 18 = .ok (.i2b, 1) := dk_get daX16_four 11 (r := (18, .i2b, 1)) rfl
theorem dX16_four_19 : decode cX16_four 19 = .ok (.bastore, 1) := dk_get daX16_four 12 (r := (19, .bastore, 1)) rfl
theorem dX16_four_20 : decode cX16_four 20 = .ok (.aload_n 0, 1) := dk_get daX16_four 13 (r := (20, .aload_n 0, 1)) rfl
theorem dX16_four_21 : decode cX16_four 21 = .ok (.dup, 1) := dk_get daX16_four 14 (r := (21, .dup, 1)) rfl
theorem dX16_four_22 : decode cX16_four 22 = .ok (.getfield 862, 3) := dk_get daX16_four 15 (r := (22, .getfield 862, 3)) rfl
theorem dX16_four_25 : decode cX16_four 25 = .ok (.iconst 1, 1) := dk_get daX16_four 16 (r := (25, .iconst 1, 1)) rfl
theorem dX16_four_26 : decode cX16_four 26 = .ok (.iadd, 1) := dk_get daX16_four 17 (r := (26, .iadd, 1)) rfl
theorem dX16_four_27 : decode cX16_four 27 = .ok (.putfield 862, 3) := dk_get daX16_four 18 (r := (27, .putfield 862, 3)) rfl
theorem dX16_four_30 : decode cX16_four 30 = .ok (.iinc 2 (-8), 3) := dk_get daX16_four 19 (r := (30, .iinc 2 (-8), 3)) rfl
theorem dX16_four_33 : decode cX16_four 33 = .ok (.goto (-30), 3) := dk_get daX16_four 20 (r := (33, .goto (-30), 3)) rfl
theorem dX16_four_36 : decode cX16_four 36 = .ok (.return_, 1) := dk_get daX16_four 21 (r := (36, .return_, 1)) rfl
abbrev mX16_end : ks_M := (RX16, cX16_end, 2, (some .int), "end")
def drX16_end : List (Nat × Instr × Nat) := [(0, .aload_n 0, 1), (1, .iload_n 1, 1), (2, .ifCond .lt 15, 3), (5, .iload_n 1, 1), (6, .aload_n 0, 1), (7, .getfield 862, 3), (10, .if_icmp .gt 7, 3), (13, .iconst 1, 1), (14, .goto 4, 3), (17, .iconst 0, 1), (18, .iconst 1, 1), (19, .invokevirtual 891, 3), (22, .ifCond .ne 5, 3), (25, .iconst 0, 1), (26, .ireturn, 1), (27, .aload_n 0, 1), (28, .iload_n 1, 1), (29, .putfield 862, 3), (32, .iload_n 1, 1), (33, .ireturn, 1)]
set_option maxRecDepth 100000 in
theorem daX16_end : dk_all cX16_end drX16_end = true := by decide +kernel
theorem dX16_end_0 : decode cX16_end 0 = .ok (.aload_n 0, 1) := dk_get daX16_end 0 (r := (0, .aload_n 0, 1)) rfl
theorem dX16_end_1 : decode cX16_end 1 = .ok (.iload_n 1, 1) := dk_get daX16_end 1 (r := (1, .iload_n 1, 1)) rfl
theorem dX16_end_2 : decode cX16_end 2 = .ok (.ifCond .lt 15, 3) := dk_get daX16_end 2 (r := (2, .ifCond .lt 15, 3)) rfl
theorem dX16_end_5 : decode cX16_end 5 = .ok (.iload_n 1, 1) := dk_get daX16_end 3 (r := (5, .iload_n 1, 1)) rfl
theorem dX16_end_6 : decode cX16_end 6 = .ok (.aload_n 0, 1) := dk_get daX16_end 4 (r := (6, .aload_n 0, 1)) rfl
theorem dX16_end_7 : decode cX16_end 7 = .ok (.getfield 862, 3) := dk_get daX16_end 5 (r := (7, .getfield 862, 3)) rfl
theorem dX16_end_10 : decode cX16_end 10 = .ok (.if_icmp .gt 7, 3) := dk_get daX16_end 6 (r := (10, .if_icmp .gt 7, 3)) rfl
theorem dX16_end_13 : decode cX16_end 13 = .ok (.iconst 1, 1) := dk_get daX16_end 7 (r := (13, .iconst 1, 1)) rfl
theorem dX16_end_14 : decode cX16_end 14 = .ok (.goto 4, 3) := dk_get daX16_end 8 (r := (14, .goto 4, 3)) rfl
theorem dX16_end_17 : decode cX16_end 17 = .ok (.iconst 0, 1) := dk_get daX16_end 9 (r := (17, .iconst 0, 1)) rfl
theorem dX16_end_18 : decode cX16_end 18 = .ok (.iconst 1, 1) := dk_get daX16_end 10 (r := (18, .iconst 1, 1)) rfl
theorem dX16_end_19 : decode cX16_end 19 = .ok (.invokevirtual 891, 3) := dk_get daX16_end 11 (r := (19, .invokevirtual 891, 3)) rfl
theorem dX16_end_22 : decode cX16_end 22 = .ok (.ifCond .ne 5, 3) := dk_get daX16_end 12 (r := (22, .ifCond .ne 5, 3)) rfl
theorem dX16_end_25 : decode cX16_end 25 = .ok (.iconst 0, 1) := dk_get daX16_end 13 (r := (25, .iconst 0, 1)) rfl
theorem dX16_end_26 : decode cX16_end 26 = .ok (.ireturn, 1) := dk_get daX16_end 14 (r := (26, .ireturn, 1)) rfl
theorem dX16_end_27 : decode cX16_end 27 = .ok (.aload_n 0, 1) := dk_get daX16_end 15 (r := (27, .aload_n 0, 1)) rfl
theorem dX16_end_28 : decode cX16_end 28 = .ok (.iload_n 1, 1) := dk_get daX16_end 16 (r := (28, .iload_n 1, 1)) rfl
theorem dX16_end_29 : decode cX16_end 29 = .ok (.putfield 862, 3) := dk_get daX16_end 17 (r := (29, .putfield 862, 3)) rfl
theorem dX16_end_32 : decode cX16_end 32 = .ok (.iload_n 1, 1) := dk_get daX16_end 18 (r := (32, .iload_n 1, 1)) rfl
theorem dX16_end_33 : decode cX16_end 33 = .ok (.ireturn, 1) := dk_get daX16_end 19 (r := (33, .ireturn, 1)) rfl
abbrev mX16_patch : ks_M := (RX16, cX16_patch, 4, (some .int), "patch")
def drX16_patch : List (Nat × Instr × Nat) := [(0, .aload_n 0, 1), (1, .iload_n 1, 1), (2, .ifCond .lt 15, 3), (5, .iload_n 1, 1), (6, .aload_n 0, 1), (7, .getfield 862, 3), (10, .if_icmp .ge 7, 3), (13, .iconst 1, 1), (14, .goto 4, 3), (17, .iconst 0, 1), (18, .iconst 1, 1), (19, .invokevirtual 891, 3), (22, .ifCond .ne 5, 3), (25, .iconst 0, 1), (26, .ireturn, 1), (27, .aload_n 0, 1), (28, .getfield 801, 3), (31, .iload_n 1, 1), (32, .baload, 1), (33, .sipush 255, 3), (36, .iand, 1), (37, .istore_n 3, 1), (38, .aload_n 0, 1), (39, .getfield 801, 3), (42, .iload_n 1, 1), (43, .iload_n 2, 1), (44, .i2b, 1), (45, .bastore, 1), (46, .iload_n 3, 1), (47, .ireturn, 1)]
set_option maxRecDepth 100000 in
theorem daX16_patch : dk_all cX16_patch drX16_patch = true := by decide +kernel
theorem dX16_patch_0 : decode cX16_patch 0 = .ok (.aload_n 0, 1) := dk_get daX16_patch 0 (r := (0, .aload_n 0, 1)) rfl
theorem dX16_patch_1 : decode cX16_patch 1 = .ok (.iload_n 1, 1) := dk_get daX16_patch 1 (r := (1, .iload_n 1, 1)) rfl
theorem dX16_patch_2 : decode cX16_patch 2 = .ok (.ifCond .lt 15, 3) := dk_get daX16_patch 2 (r := (2, .ifCond .lt 15, 3)) rfl
theorem dX16_patch_5 : decode cX16_patch 5 = .ok (.iload_n 1, 1) := dk_get daX16_patch 3 (r := (5, .iload_n 1, 1)) rfl
theorem dX16_patch_6 : decode cX16_patch 6 = .ok (.aload_n 0, 1) := dk_get daX16_patch 4 (r := (6, .aload_n 0, 1)) rfl
theorem dX16_patch_7 : decode cX16_patch 7 = .ok (.getfield 862, 3) := dk_get daX16_patch 5 (r := (7, .getfield 862, 3)) rfl
theorem dX16_patch_10 : decode cX16_patch 10 = .ok (.if_icmp .ge 7, 3) := dk_get daX16_patch 6 (r := (10, .if_icmp .ge 7, 3)) rfl
theorem dX16_patch_13 : decode cX16_patch 13 = .ok (.iconst 1, 1) := dk_get daX16_patch 7 (r := (13, .iconst 1, 1)) rfl
theorem dX16_patch_14 : decode cX16_patch 14 = .ok (.goto 4, 3) := dk_get daX16_patch 8 (r := (14, .goto 4, 3)) rfl
theorem dX16_patch_17 : decode cX16_patch 17 = .ok (.iconst 0, 1) := dk_get daX16_patch 9 (r := (17, .iconst 0, 1)) rfl
theorem dX16_patch_18 : decode cX16_patch 18 = .ok (.iconst 1, 1) := dk_get daX16_patch 10 (r := (18, .iconst 1, 1)) rfl
theorem dX16_patch_19 : decode cX16_patch 19 = .ok (.invokevirtual 891, 3) := dk_get daX16_patch 11 (r := (19, .invokevirtual 891, 3)) rfl
theorem dX16_patch_22 : decode cX16_patch 22 = .ok (.ifCond .ne 5, 3) := dk_get daX16_patch 12 (r := (22, .ifCond .ne 5, 3)) rfl
theorem dX16_patch_25 : decode cX16_patch 25 = .ok (.iconst 0, 1) := dk_get daX16_patch 13 (r := (25, .iconst 0, 1)) rfl
theorem dX16_patch_26 : decode cX16_patch 26 = .ok (.ireturn, 1) := dk_get daX16_patch 14 (r := (26, .ireturn, 1)) rfl
theorem dX16_patch_27 : decode cX16_patch 27 = .ok (.aload_n 0, 1) := dk_get daX16_patch 15 (r := (27, .aload_n 0, 1)) rfl
theorem dX16_patch_28 : decode cX16_patch 28 = .ok (.getfield 801, 3) := dk_get daX16_patch 16 (r := (28, .getfield 801, 3)) rfl
theorem dX16_patch_31 : decode cX16_patch 31 = .ok (.iload_n 1, 1) := dk_get daX16_patch 17 (r := (31, .iload_n 1, 1)) rfl
theorem dX16_patch_32 : decode cX16_patch 32 = .ok (.baload, 1) := dk_get daX16_patch 18 (r := (32, .baload, 1)) rfl
theorem dX16_patch_33 : decode cX16_patch 33 = .ok (.sipush 255, 3) := dk_get daX16_patch 19 (r := (33, .sipush 255, 3)) rfl
theorem dX16_patch_36 : decode cX16_patch 36 = .ok (.iand, 1) := dk_get daX16_patch 20 (r := (36, .iand, 1)) rfl
theorem dX16_patch_37 : decode cX16_patch 37 = .ok (.istore_n 3, 1) := dk_get daX16_patch 21 (r := (37, .istore_n 3, 1)) rfl
theorem dX16_patch_38 : decode cX16_patch 38 = .ok (.aload_n 0, 1) := dk_get daX16_patch 22 (r := (38, .aload_n 0, 1)) rfl
theorem dX16_patch_39 : decode cX16_patch 39 = .ok (.getfield 801, 3) := dk_get daX16_patch 23 (r := (39, .getfield 801, 3)) rfl
theorem dX16_patch_42 : decode cX16_patch 42 = .ok (.iload_n 1, 1) := dk_get daX16_patch 24 (r := (42, .iload_n 1, 1)) rfl
theorem dX16_patch_43 : decode cX16_patch 43 = .ok (.iload_n 2, 1) := dk_get daX16_patch 25 (r := (43, .iload_n 2, 1)) rfl
theorem dX16_patch_44 : decode cX16_patch 44 = .ok (.i2b, 1) := dk_get daX16_patch 26 (r := (44, .i2b, 1)) rfl
theorem dX16_patch_45 : decode cX16_patch 45 = .ok (.bastore, 1) := dk_get daX16_patch 27 (r := (45, .bastore, 1)) rfl
theorem dX16_patch_46 : decode cX16_patch 46 = .ok (.iload_n 3, 1) := dk_get daX16_patch 28 (r := (46, .iload_n 3, 1)) rfl
theorem dX16_patch_47 : decode cX16_patch 47 = .ok (.ireturn, 1) := dk_get daX16_patch 29 (r := (47, .ireturn, 1)) rfl
abbrev mX16_keyOf : ks_M := (RX16, cX16_keyOf, 3, none, "keyOf")
def drX16_keyOf : List (Nat × Instr × Nat) := [(0, .iconst 0, 1), (1, .istore_n 2, 1), (2, .iload_n 2, 1), (3, .bipush 8, 2), (5, .if_icmp .ge 24, 3), (8, .aload_n 0, 1), (9, .getfield 219, 3), (12, .iload_n 2, 1), (13, .iload_n 2, 1), (14, .ifCond .ne 7, 3), (17, .iload_n 1, 1), (18, .goto 4, 3), (21, .iconst 0, 1), (22, .iastore, 1), (23, .iinc 2 1, 3), (26, .goto (-24), 3), (29, .aload_n 0, 1), (30, .aload_n 0, 1), (31, .getfield 219, 3), (34, .aload_n 0, 1), (35, .getfield 225, 3), (38, .aload_n 0, 1), (39, .getfield 228, 3), (42, .invokevirtual 231, 3), (45, .aload_n 0, 1), (46, .aload_n 0, 1), (47, .getfield 228, 3), (50, .aload_n 0, 1), (51, .getfield 155, 3), (54, .aload_n 0, 1), (55, .getfield 185, 3), (58, .invokevirtual 237, 3), (61, .aload_n 0, 1), (62, .getfield 155, 3), (65, .aload_n 0, 1), (66, .getfield 807, 3), (69, .iconst 1, 1), (70, .invokestatic 898, 3), (73, .aload_n 0, 1), (74, .getfield 185, 3), (77, .aload_n 0, 1), (78, .getfield 807, 3), (81, .bipush 33, 2), (83, .invokestatic 898, 3), (86, .return_, 1)]
set_option maxRecDepth 100000 in
theorem daX16_keyOf : dk_all cX16_keyOf drX16_keyOf = true := by decide +kernel
theorem dX16_keyOf_0 : decode cX16_keyOf 0 = .ok (.iconst 0, 1) := dk_get daX16_keyOf 0 (r := (0, .iconst 0, 1)) rfl
theorem dX16_keyOf_1 : decode cX16_keyOf 1 = .ok (.istore_n 2, 1) := dk_get daX16_keyOf 1 (r := (1, .istore_n 2, 1)) rfl
theorem dX16_keyOf_2 : decode cX16_keyOf 2 = .ok (.iload_n 2, 1) := dk_get daX16_keyOf 2 (r := (2, .iload_n 2, 1)) rfl
theorem dX16_keyOf_3 : decode cX16_keyOf 3 = .ok (.bipush 8, 2) := dk_get daX16_keyOf 3 (r := (3, .bipush 8, 2)) rfl
theorem dX16_keyOf_5 : decode cX16_keyOf 5 = .ok (.if_icmp .ge 24, 3) := dk_get daX16_keyOf 4 (r := (5, .if_icmp .ge 24, 3)) rfl
theorem dX16_keyOf_8 : decode cX16_keyOf 8 = .ok (.aload_n 0, 1) := dk_get daX16_keyOf 5 (r := (8, .aload_n 0, 1)) rfl
theorem dX16_keyOf_9 : decode cX16_keyOf 9 = .ok (.getfield 219, 3) := dk_get daX16_keyOf 6 (r := (9, .getfield 219, 3)) rfl
theorem dX16_keyOf_12 : decode cX16_keyOf 12 = .ok (.iload_n 2, 1) := dk_get daX16_keyOf 7 (r := (12, .iload_n 2, 1)) rfl
theorem dX16_keyOf_13 : decode cX16_keyOf 13 = .ok (.iload_n 2, 1) := dk_get daX16_keyOf 8 (r := (13, .iload_n 2, 1)) rfl
theorem dX16_keyOf_14 : decode cX16_keyOf 14 = .ok (.ifCond .ne 7, 3) := dk_get daX16_keyOf 9 (r := (14, .ifCond .ne 7, 3)) rfl
theorem dX16_keyOf_17 : decode cX16_keyOf 17 = .ok (.iload_n 1, 1) := dk_get daX16_keyOf 10 (r := (17, .iload_n 1, 1)) rfl
theorem dX16_keyOf_18 : decode cX16_keyOf 18 = .ok (.goto 4, 3) := dk_get daX16_keyOf 11 (r := (18, .goto 4, 3)) rfl
theorem dX16_keyOf_21 : decode cX16_keyOf 21 = .ok (.iconst 0, 1) := dk_get daX16_keyOf 12 (r := (21, .iconst 0, 1)) rfl
theorem dX16_keyOf_22 : decode cX16_keyOf 22 = .ok (.iastore, 1) := dk_get daX16_keyOf 13 (r := (22, .iastore, 1)) rfl
theorem dX16_keyOf_23 : decode cX16_keyOf 23 = .ok (.iinc 2 1, 3) := dk_get daX16_keyOf 14 (r := (23, .iinc 2 1, 3)) rfl
theorem dX16_keyOf_26 : decode cX16_keyOf 26 = .ok (.goto (-24), 3) := dk_get daX16_keyOf 15 (r := (26, .goto (-24), 3)) rfl
theorem dX16_keyOf_29 : decode cX16_keyOf 29 = .ok (.aload_n 0, 1) := dk_get daX16_keyOf 16 (r := (29, .aload_n 0, 1)) rfl
theorem dX16_keyOf_30 : decode cX16_keyOf 30 = .ok (.aload_n 0, 1) := dk_get daX16_keyOf 17 (r := (30, .aload_n 0, 1)) rfl
theorem dX16_keyOf_31 : decode cX16_keyOf 31 = .ok (.getfield 219, 3) := dk_get daX16_keyOf 18 (r := (31, .getfield 219, 3)) rfl
theorem dX16_keyOf_34 : decode cX16_keyOf 34 = .ok (.aload_n 0, 1) := dk_get daX16_keyOf 19 (r := (34, .aload_n 0, 1)) rfl
theorem dX16_keyOf_35 : decode cX16_keyOf 35 = .ok (.getfield 225, 3) := dk_get daX16_keyOf 20 (r := (35, .getfield 225, 3)) rfl
theorem dX16_keyOf_38 : decode cX16_keyOf 38 = .ok (.aload_n 0, 1) := dk_get daX16_keyOf 21 (r := (38, .aload_n 0, 1)) rfl
theorem dX16_keyOf_39 : decode cX16_keyOf 39 = .ok (.getfield 228, 3) := dk_get daX16_keyOf 22 (r := (39, .getfield 228, 3)) rfl
theorem dX16_keyOf_42 : decode cX16_keyOf 42 = .ok (.invokevirtual 231, 3) := dk_get daX16_keyOf 23 (r := (42, .invokevirtual 231, 3)) rfl
theorem dX16_keyOf_45 : decode cX16_keyOf 45 = .ok (.aload_n 0, 1) := dk_get daX16_keyOf 24 (r := (45, .aload_n 0, 1)) rfl
theorem dX16_keyOf_46 : decode cX16_keyOf 46 = .ok (.aload_n 0, 1) := dk_get daX16_keyOf 25 (r := (46, .aload_n 0, 1)) rfl
theorem dX16_keyOf_47 : decode cX16_keyOf 47 = .ok (.getfield 228, 3) := dk_get daX16_keyOf 26 (r := (47, .getfield 228, 3)) rfl
theorem dX16_keyOf_50 : decode cX16_keyOf 50 = .ok (.aload_n 0, 1) := dk_get daX16_keyOf 27 (r := (50, .aload_n 0, 1)) rfl
theorem dX16_keyOf_51 : decode cX16_keyOf 51 = .ok (.getfield 155, 3) := dk_get daX16_keyOf 28 (r := (51, .getfield 155, 3)) rfl
theorem dX16_keyOf_54 : decode cX16_keyOf 54 = .ok (.aload_n 0, 1) := dk_get daX16_keyOf 29 (r := (54, .aload_n 0, 1)) rfl
theorem dX16_keyOf_55 : decode cX16_keyOf 55 = .ok (.getfield 185, 3) := dk_get daX16_keyOf 30 (r := (55, .getfield 185, 3)) rfl
theorem dX16_keyOf_58 : decode cX16_keyOf 58 = .ok (.invokevirtual 237, 3) := dk_get daX16_keyOf 31 (r := (58, .invokevirtual 237, 3)) rfl
theorem dX16_keyOf_61 : decode cX16_keyOf 61 = .ok (.aload_n 0, 1) := dk_get daX16_keyOf 32 (r := (61, .aload_n 0, 1)) rfl
theorem dX16_keyOf_62 : decode cX16_keyOf 62 = .ok (.getfield 155, 3) := dk_get daX16_keyOf 33 (r := (62, .getfield 155, 3)) rfl
theorem dX16_keyOf_65 : decode cX16_keyOf 65 = .ok (.aload_n 0, 1) := dk_get daX16_keyOf 34 (r := (65, .aload_n 0, 1)) rfl
theorem dX16_keyOf_66 : decode cX16_keyOf 66 = .ok (.getfield 807, 3) := dk_get daX16_keyOf 35 (r := (66, .getfield 807, 3)) rfl
theorem dX16_keyOf_69 : decode cX16_keyOf 69 = .ok (.iconst 1, 1) := dk_get daX16_keyOf 36 (r := (69, .iconst 1, 1)) rfl
theorem dX16_keyOf_70 : decode cX16_keyOf 70 = .ok (.invokestatic 898, 3) := dk_get daX16_keyOf 37 (r := (70, .invokestatic 898, 3)) rfl
theorem dX16_keyOf_73 : decode cX16_keyOf 73 = .ok (.aload_n 0, 1) := dk_get daX16_keyOf 38 (r := (73, .aload_n 0, 1)) rfl
theorem dX16_keyOf_74 : decode cX16_keyOf 74 = .ok (.getfield 185, 3) := dk_get daX16_keyOf 39 (r := (74, .getfield 185, 3)) rfl
theorem dX16_keyOf_77 : decode cX16_keyOf 77 = .ok (.aload_n 0, 1) := dk_get daX16_keyOf 40 (r := (77, .aload_n 0, 1)) rfl
theorem dX16_keyOf_78 : decode cX16_keyOf 78 = .ok (.getfield 807, 3) := dk_get daX16_keyOf 41 (r := (78, .getfield 807, 3)) rfl
theorem dX16_keyOf_81 : decode cX16_keyOf 81 = .ok (.bipush 33, 2) := dk_get daX16_keyOf 42 (r := (81, .bipush 33, 2)) rfl
theorem dX16_keyOf_83 : decode cX16_keyOf 83 = .ok (.invokestatic 898, 3) := dk_get daX16_keyOf 43 (r := (83, .invokestatic 898, 3)) rfl
theorem dX16_keyOf_86 : decode cX16_keyOf 86 = .ok (.return_, 1) := dk_get daX16_keyOf 44 (r := (86, .return_, 1)) rfl
abbrev mX16_key : ks_M := (RX16, cX16_key, 4, (some .int), "key")
def drX16_key : List (Nat × Instr × Nat) := [(0, .aload_n 0, 1), (1, .iload_n 1, 1), (2, .iconst 1, 1), (3, .if_icmp .lt 16, 3), (6, .iload_n 2, 1), (7, .ifCond .lt 12, 3), (10, .iload_n 2, 1), (11, .iconst 2, 1), (12, .if_icmp .gt 7, 3), (15, .iconst 1, 1), (16, .goto 4, 3), (19, .iconst 0, 1), (20, .iconst 1, 1), (21, .invokevirtual 891, 3), (24, .ifCond .eq 48, 3), (27, .aload_n 0, 1), (28, .aload_n 0, 1), (29, .getfield 862, 3), (32, .iload_n 2, 1), (33, .ifCond .ne 8, 3), (36, .bipush 33, 2), (38, .goto 15, 3), (41, .iload_n 2, 1), (42, .iconst 1, 1), (43, .if_icmp .ne 8, 3), (46, .bipush 65, 2), (48, .goto 5, 3), (51, .bipush 20, 2), (53, .iadd, 1), (54, .sipush 1600, 3), (57, .if_icmp .gt 7, 3), (60, .iconst 1, 1), (61, .goto 4, 3), (64, .iconst 0, 1), (65, .iconst 2, 1), (66, .invokevirtual 891, 3), (69, .ifCond .ne 5, 3), (72, .iconst 0, 1), (73, .ireturn, 1), (74, .aload_n 0, 1), (75, .iload_n 1, 1), (76, .invokevirtual 902, 3), (79, .aload_n 0, 1), (80, .getfield 807, 3), (83, .iconst 0, 1), (84, .iload_n 2, 1), (85, .iconst 1, 1), (86, .if_icmp .ne 7, 3), (89, .iconst 4, 1), (90, .goto 13, 3), (93, .iconst 2, 1), (94, .aload_n 0, 1), (95, .getfield 185, 3), (98, .iconst 0, 1), (99, .iaload, 1), (100, .iconst 1, 1), (101, .iand, 1), (102, .iadd, 1), (103, .i2b, 1), (104, .bastore, 1), (105, .iload_n 2, 1), (106, .iconst 2, 1), (107, .if_icmp .ne 25, 3), (110, .aload_n 0, 1), (111, .aload_n 0, 1), (112, .getfield 807, 3), (115, .iconst 0, 1), (116, .bipush 33, 2), (118, .aload_n 0, 1), (119, .getfield 801, 3), (122, .aload_n 0, 1), (123, .getfield 862, 3), (126, .invokevirtual 639, 3), (129, .goto 43, 3), (132, .iconst 0, 1), (133, .istore_n 3, 1), (134, .iload_n 3, 1), (135, .iload_n 2, 1), (136, .ifCond .ne 8, 3), (139, .bipush 33, 2), (141, .goto 5, 3), (144, .bipush 65, 2), (146, .if_icmp .ge 26, 3), (149, .aload_n 0, 1), (150, .getfield 801, 3), (153, .aload_n 0, 1), (154, .getfield 862, 3), (157, .iload_n 3, 1), (158, .iadd, 1), (159, .aload_n 0, 1), (160, .getfield 807, 3), (163, .iload_n 3, 1), (164, .baload, 1), (165, .bastore, 1), (166, .iinc 3 1, 3), (169, .goto (-35), 3), (172, .aload_n 0, 1), (173, .dup, 1), (174, .getfield 862, 3), (177, .iload_n 2, 1), (178, .ifCond .ne 8, 3), (181, .bipush 33, 2), (183, .goto 15, 3), (186, .iload_n 2, 1), (187, .iconst 1, 1), (188, .if_icmp .ne 8, 3), (191, .bipush 65, 2), (193, .goto 5, 3), (196, .bipush 20, 2), (198, .iadd, 1), (199, .putfield 862, 3), (202, .aload_n 0, 1), (203, .getfield 862, 3), (206, .ireturn, 1)]
set_option maxRecDepth 100000 in
theorem daX16_key : dk_all cX16_key drX16_key = true := by decide +kernel
theorem dX16_key_0 : decode cX16_key 0 = .ok (.aload_n 0, 1) := dk_get daX16_key 0 (r := (0, .aload_n 0, 1)) rfl
theorem dX16_key_1 : decode cX16_key 1 = .ok (.iload_n 1, 1) := dk_get daX16_key 1 (r := (1, .iload_n 1, 1)) rfl
theorem dX16_key_2 : decode cX16_key 2 = .ok (.iconst 1, 1) := dk_get daX16_key 2 (r := (2, .iconst 1, 1)) rfl
theorem dX16_key_3 : decode cX16_key 3 = .ok (.if_icmp .lt 16, 3) := dk_get daX16_key 3 (r := (3, .if_icmp .lt 16, 3)) rfl
theorem dX16_key_6 : decode cX16_key 6 = .ok (.iload_n 2, 1) := dk_get daX16_key 4 (r := (6, .iload_n 2, 1)) rfl
theorem dX16_key_7 : decode cX16_key 7 = .ok (.ifCond .lt 12, 3) := dk_get daX16_key 5 (r := (7, .ifCond .lt 12, 3)) rfl
theorem dX16_key_10 : decode cX16_key 10 = .ok (.iload_n 2, 1) := dk_get daX16_key 6 (r := (10, .iload_n 2, 1)) rfl
theorem dX16_key_11 : decode cX16_key 11 = .ok (.iconst 2, 1) := dk_get daX16_key 7 (r := (11, .iconst 2, 1)) rfl
theorem dX16_key_12 : decode cX16_key 12 = .ok (.if_icmp .gt 7, 3) := dk_get daX16_key 8 (r := (12, .if_icmp .gt 7, 3)) rfl
theorem dX16_key_15 : decode cX16_key 15 = .ok (.iconst 1, 1) := dk_get daX16_key 9 (r := (15, .iconst 1, 1)) rfl
theorem dX16_key_16 : decode cX16_key 16 = .ok (.goto 4, 3) := dk_get daX16_key 10 (r := (16, .goto 4, 3)) rfl
theorem dX16_key_19 : decode cX16_key 19 = .ok (.iconst 0, 1) := dk_get daX16_key 11 (r := (19, .iconst 0, 1)) rfl
theorem dX16_key_20 : decode cX16_key 20 = .ok (.iconst 1, 1) := dk_get daX16_key 12 (r := (20, .iconst 1, 1)) rfl
theorem dX16_key_21 : decode cX16_key 21 = .ok (.invokevirtual 891, 3) := dk_get daX16_key 13 (r := (21, .invokevirtual 891, 3)) rfl
theorem dX16_key_24 : decode cX16_key 24 = .ok (.ifCond .eq 48, 3) := dk_get daX16_key 14 (r := (24, .ifCond .eq 48, 3)) rfl
theorem dX16_key_27 : decode cX16_key 27 = .ok (.aload_n 0, 1) := dk_get daX16_key 15 (r := (27, .aload_n 0, 1)) rfl
theorem dX16_key_28 : decode cX16_key 28 = .ok (.aload_n 0, 1) := dk_get daX16_key 16 (r := (28, .aload_n 0, 1)) rfl
theorem dX16_key_29 : decode cX16_key 29 = .ok (.getfield 862, 3) := dk_get daX16_key 17 (r := (29, .getfield 862, 3)) rfl
theorem dX16_key_32 : decode cX16_key 32 = .ok (.iload_n 2, 1) := dk_get daX16_key 18 (r := (32, .iload_n 2, 1)) rfl
theorem dX16_key_33 : decode cX16_key 33 = .ok (.ifCond .ne 8, 3) := dk_get daX16_key 19 (r := (33, .ifCond .ne 8, 3)) rfl
theorem dX16_key_36 : decode cX16_key 36 = .ok (.bipush 33, 2) := dk_get daX16_key 20 (r := (36, .bipush 33, 2)) rfl
theorem dX16_key_38 : decode cX16_key 38 = .ok (.goto 15, 3) := dk_get daX16_key 21 (r := (38, .goto 15, 3)) rfl
theorem dX16_key_41 : decode cX16_key 41 = .ok (.iload_n 2, 1) := dk_get daX16_key 22 (r := (41, .iload_n 2, 1)) rfl
theorem dX16_key_42 : decode cX16_key 42 = .ok (.iconst 1, 1) := dk_get daX16_key 23 (r := (42, .iconst 1, 1)) rfl
theorem dX16_key_43 : decode cX16_key 43 = .ok (.if_icmp .ne 8, 3) := dk_get daX16_key 24 (r := (43, .if_icmp .ne 8, 3)) rfl
theorem dX16_key_46 : decode cX16_key 46 = .ok (.bipush 65, 2) := dk_get daX16_key 25 (r := (46, .bipush 65, 2)) rfl
theorem dX16_key_48 : decode cX16_key 48 = .ok (.goto 5, 3) := dk_get daX16_key 26 (r := (48, .goto 5, 3)) rfl
theorem dX16_key_51 : decode cX16_key 51 = .ok (.bipush 20, 2) := dk_get daX16_key 27 (r := (51, .bipush 20, 2)) rfl
theorem dX16_key_53 : decode cX16_key 53 = .ok (.iadd, 1) := dk_get daX16_key 28 (r := (53, .iadd, 1)) rfl
theorem dX16_key_54 : decode cX16_key 54 = .ok (.sipush 1600, 3) := dk_get daX16_key 29 (r := (54, .sipush 1600, 3)) rfl
theorem dX16_key_57 : decode cX16_key 57 = .ok (.if_icmp .gt 7, 3) := dk_get daX16_key 30 (r := (57, .if_icmp .gt 7, 3)) rfl
theorem dX16_key_60 : decode cX16_key 60 = .ok (.iconst 1, 1) := dk_get daX16_key 31 (r := (60, .iconst 1, 1)) rfl
theorem dX16_key_61 : decode cX16_key 61 = .ok (.goto 4, 3) := dk_get daX16_key 32 (r := (61, .goto 4, 3)) rfl
theorem dX16_key_64 : decode cX16_key 64 = .ok (.iconst 0, 1) := dk_get daX16_key 33 (r := (64, .iconst 0, 1)) rfl
theorem dX16_key_65 : decode cX16_key 65 = .ok (.iconst 2, 1) := dk_get daX16_key 34 (r := (65, .iconst 2, 1)) rfl
theorem dX16_key_66 : decode cX16_key 66 = .ok (.invokevirtual 891, 3) := dk_get daX16_key 35 (r := (66, .invokevirtual 891, 3)) rfl
theorem dX16_key_69 : decode cX16_key 69 = .ok (.ifCond .ne 5, 3) := dk_get daX16_key 36 (r := (69, .ifCond .ne 5, 3)) rfl
theorem dX16_key_72 : decode cX16_key 72 = .ok (.iconst 0, 1) := dk_get daX16_key 37 (r := (72, .iconst 0, 1)) rfl
theorem dX16_key_73 : decode cX16_key 73 = .ok (.ireturn, 1) := dk_get daX16_key 38 (r := (73, .ireturn, 1)) rfl
theorem dX16_key_74 : decode cX16_key 74 = .ok (.aload_n 0, 1) := dk_get daX16_key 39 (r := (74, .aload_n 0, 1)) rfl
theorem dX16_key_75 : decode cX16_key 75 = .ok (.iload_n 1, 1) := dk_get daX16_key 40 (r := (75, .iload_n 1, 1)) rfl
theorem dX16_key_76 : decode cX16_key 76 = .ok (.invokevirtual 902, 3) := dk_get daX16_key 41 (r := (76, .invokevirtual 902, 3)) rfl
theorem dX16_key_79 : decode cX16_key 79 = .ok (.aload_n 0, 1) := dk_get daX16_key 42 (r := (79, .aload_n 0, 1)) rfl
theorem dX16_key_80 : decode cX16_key 80 = .ok (.getfield 807, 3) := dk_get daX16_key 43 (r := (80, .getfield 807, 3)) rfl
theorem dX16_key_83 : decode cX16_key 83 = .ok (.iconst 0, 1) := dk_get daX16_key 44 (r := (83, .iconst 0, 1)) rfl
theorem dX16_key_84 : decode cX16_key 84 = .ok (.iload_n 2, 1) := dk_get daX16_key 45 (r := (84, .iload_n 2, 1)) rfl
theorem dX16_key_85 : decode cX16_key 85 = .ok (.iconst 1, 1) := dk_get daX16_key 46 (r := (85, .iconst 1, 1)) rfl
theorem dX16_key_86 : decode cX16_key 86 = .ok (.if_icmp .ne 7, 3) := dk_get daX16_key 47 (r := (86, .if_icmp .ne 7, 3)) rfl
theorem dX16_key_89 : decode cX16_key 89 = .ok (.iconst 4, 1) := dk_get daX16_key 48 (r := (89, .iconst 4, 1)) rfl
theorem dX16_key_90 : decode cX16_key 90 = .ok (.goto 13, 3) := dk_get daX16_key 49 (r := (90, .goto 13, 3)) rfl
theorem dX16_key_93 : decode cX16_key 93 = .ok (.iconst 2, 1) := dk_get daX16_key 50 (r := (93, .iconst 2, 1)) rfl
theorem dX16_key_94 : decode cX16_key 94 = .ok (.aload_n 0, 1) := dk_get daX16_key 51 (r := (94, .aload_n 0, 1)) rfl
theorem dX16_key_95 : decode cX16_key 95 = .ok (.getfield 185, 3) := dk_get daX16_key 52 (r := (95, .getfield 185, 3)) rfl
theorem dX16_key_98 : decode cX16_key 98 = .ok (.iconst 0, 1) := dk_get daX16_key 53 (r := (98, .iconst 0, 1)) rfl
theorem dX16_key_99 : decode cX16_key 99 = .ok (.iaload, 1) := dk_get daX16_key 54 (r := (99, .iaload, 1)) rfl
theorem dX16_key_100 : decode cX16_key 100 = .ok (.iconst 1, 1) := dk_get daX16_key 55 (r := (100, .iconst 1, 1)) rfl
theorem dX16_key_101 : decode cX16_key 101 = .ok (.iand, 1) := dk_get daX16_key 56 (r := (101, .iand, 1)) rfl
theorem dX16_key_102 : decode cX16_key 102 = .ok (.iadd, 1) := dk_get daX16_key 57 (r := (102, .iadd, 1)) rfl
theorem dX16_key_103 : decode cX16_key 103 = .ok (.i2b, 1) := dk_get daX16_key 58 (r := (103, .i2b, 1)) rfl
theorem dX16_key_104 : decode cX16_key 104 = .ok (.bastore, 1) := dk_get daX16_key 59 (r := (104, .bastore, 1)) rfl
theorem dX16_key_105 : decode cX16_key 105 = .ok (.iload_n 2, 1) := dk_get daX16_key 60 (r := (105, .iload_n 2, 1)) rfl
theorem dX16_key_106 : decode cX16_key 106 = .ok (.iconst 2, 1) := dk_get daX16_key 61 (r := (106, .iconst 2, 1)) rfl
theorem dX16_key_107 : decode cX16_key 107 = .ok (.if_icmp .ne 25, 3) := dk_get daX16_key 62 (r := (107, .if_icmp .ne 25, 3)) rfl
theorem dX16_key_110 : decode cX16_key 110 = .ok (.aload_n 0, 1) := dk_get daX16_key 63 (r := (110, .aload_n 0, 1)) rfl
theorem dX16_key_111 : decode cX16_key 111 = .ok (.aload_n 0, 1) := dk_get daX16_key 64 (r := (111, .aload_n 0, 1)) rfl
theorem dX16_key_112 : decode cX16_key 112 = .ok (.getfield 807, 3) := dk_get daX16_key 65 (r := (112, .getfield 807, 3)) rfl
theorem dX16_key_115 : decode cX16_key 115 = .ok (.iconst 0, 1) := dk_get daX16_key 66 (r := (115, .iconst 0, 1)) rfl
theorem dX16_key_116 : decode cX16_key 116 = .ok (.bipush 33, 2) := dk_get daX16_key 67 (r := (116, .bipush 33, 2)) rfl
theorem dX16_key_118 : decode cX16_key 118 = .ok (.aload_n 0, 1) := dk_get daX16_key 68 (r := (118, .aload_n 0, 1)) rfl
theorem dX16_key_119 : decode cX16_key 119 = .ok (.getfield 801, 3) := dk_get daX16_key 69 (r := (119, .getfield 801, 3)) rfl
theorem dX16_key_122 : decode cX16_key 122 = .ok (.aload_n 0, 1) := dk_get daX16_key 70 (r := (122, .aload_n 0, 1)) rfl
theorem dX16_key_123 : decode cX16_key 123 = .ok (.getfield 862, 3) := dk_get daX16_key 71 (r := (123, .getfield 862, 3)) rfl
theorem dX16_key_126 : decode cX16_key 126 = .ok (.invokevirtual 639, 3) := dk_get daX16_key 72 (r := (126, .invokevirtual 639, 3)) rfl
theorem dX16_key_129 : decode cX16_key 129 = .ok (.goto 43, 3) := dk_get daX16_key 73 (r := (129, .goto 43, 3)) rfl
theorem dX16_key_132 : decode cX16_key 132 = .ok (.iconst 0, 1) := dk_get daX16_key 74 (r := (132, .iconst 0, 1)) rfl
theorem dX16_key_133 : decode cX16_key 133 = .ok (.istore_n 3, 1) := dk_get daX16_key 75 (r := (133, .istore_n 3, 1)) rfl
theorem dX16_key_134 : decode cX16_key 134 = .ok (.iload_n 3, 1) := dk_get daX16_key 76 (r := (134, .iload_n 3, 1)) rfl
theorem dX16_key_135 : decode cX16_key 135 = .ok (.iload_n 2, 1) := dk_get daX16_key 77 (r := (135, .iload_n 2, 1)) rfl
theorem dX16_key_136 : decode cX16_key 136 = .ok (.ifCond .ne 8, 3) := dk_get daX16_key 78 (r := (136, .ifCond .ne 8, 3)) rfl
theorem dX16_key_139 : decode cX16_key 139 = .ok (.bipush 33, 2) := dk_get daX16_key 79 (r := (139, .bipush 33, 2)) rfl
theorem dX16_key_141 : decode cX16_key 141 = .ok (.goto 5, 3) := dk_get daX16_key 80 (r := (141, .goto 5, 3)) rfl
theorem dX16_key_144 : decode cX16_key 144 = .ok (.bipush 65, 2) := dk_get daX16_key 81 (r := (144, .bipush 65, 2)) rfl
theorem dX16_key_146 : decode cX16_key 146 = .ok (.if_icmp .ge 26, 3) := dk_get daX16_key 82 (r := (146, .if_icmp .ge 26, 3)) rfl
theorem dX16_key_149 : decode cX16_key 149 = .ok (.aload_n 0, 1) := dk_get daX16_key 83 (r := (149, .aload_n 0, 1)) rfl
theorem dX16_key_150 : decode cX16_key 150 = .ok (.getfield 801, 3) := dk_get daX16_key 84 (r := (150, .getfield 801, 3)) rfl
theorem dX16_key_153 : decode cX16_key 153 = .ok (.aload_n 0, 1) := dk_get daX16_key 85 (r := (153, .aload_n 0, 1)) rfl
theorem dX16_key_154 : decode cX16_key 154 = .ok (.getfield 862, 3) := dk_get daX16_key 86 (r := (154, .getfield 862, 3)) rfl
theorem dX16_key_157 : decode cX16_key 157 = .ok (.iload_n 3, 1) := dk_get daX16_key 87 (r := (157, .iload_n 3, 1)) rfl
theorem dX16_key_158 : decode cX16_key 158 = .ok (.iadd, 1) := dk_get daX16_key 88 (r := (158, .iadd, 1)) rfl
theorem dX16_key_159 : decode cX16_key 159 = .ok (.aload_n 0, 1) := dk_get daX16_key 89 (r := (159, .aload_n 0, 1)) rfl
theorem dX16_key_160 : decode cX16_key 160 = .ok (.getfield 807, 3) := dk_get daX16_key 90 (r := (160, .getfield 807, 3)) rfl
theorem dX16_key_163 : decode cX16_key 163 = .ok (.iload_n 3, 1) := dk_get daX16_key 91 (r := (163, .iload_n 3, 1)) rfl
theorem dX16_key_164 : decode cX16_key 164 = .ok (.baload, 1) := dk_get daX16_key 92 (r := (164, .baload, 1)) rfl
theorem dX16_key_165 : decode cX16_key 165 = .ok (.bastore, 1) := dk_get daX16_key 93 (r := (165, .bastore, 1)) rfl
theorem dX16_key_166 : decode cX16_key 166 = .ok (.iinc 3 1, 3) := dk_get daX16_key 94 (r := (166, .iinc 3 1, 3)) rfl
theorem dX16_key_169 : decode cX16_key 169 = .ok (.goto (-35), 3) := dk_get daX16_key 95 (r := (169, .goto (-35), 3)) rfl
theorem dX16_key_172 : decode cX16_key 172 = .ok (.aload_n 0, 1) := dk_get daX16_key 96 (r := (172, .aload_n 0, 1)) rfl
theorem dX16_key_173 : decode cX16_key 173 = .ok (.dup, 1) := dk_get daX16_key 97 (r := (173, .dup, 1)) rfl
theorem dX16_key_174 : decode cX16_key 174 = .ok (.getfield 862, 3) := dk_get daX16_key 98 (r := (174, .getfield 862, 3)) rfl
theorem dX16_key_177 : decode cX16_key 177 = .ok (.iload_n 2, 1) := dk_get daX16_key 99 (r := (177, .iload_n 2, 1)) rfl
theorem dX16_key_178 : decode cX16_key 178 = .ok (.ifCond .ne 8, 3) := dk_get daX16_key 100 (r := (178, .ifCond .ne 8, 3)) rfl
theorem dX16_key_181 : decode cX16_key 181 = .ok (.bipush 33, 2) := dk_get daX16_key 101 (r := (181, .bipush 33, 2)) rfl
theorem dX16_key_183 : decode cX16_key 183 = .ok (.goto 15, 3) := dk_get daX16_key 102 (r := (183, .goto 15, 3)) rfl
theorem dX16_key_186 : decode cX16_key 186 = .ok (.iload_n 2, 1) := dk_get daX16_key 103 (r := (186, .iload_n 2, 1)) rfl
theorem dX16_key_187 : decode cX16_key 187 = .ok (.iconst 1, 1) := dk_get daX16_key 104 (r := (187, .iconst 1, 1)) rfl
theorem dX16_key_188 : decode cX16_key 188 = .ok (.if_icmp .ne 8, 3) := dk_get daX16_key 105 (r := (188, .if_icmp .ne 8, 3)) rfl
theorem dX16_key_191 : decode cX16_key 191 = .ok (.bipush 65, 2) := dk_get daX16_key 106 (r := (191, .bipush 65, 2)) rfl
theorem dX16_key_193 : decode cX16_key 193 = .ok (.goto 5, 3) := dk_get daX16_key 107 (r := (193, .goto 5, 3)) rfl
theorem dX16_key_196 : decode cX16_key 196 = .ok (.bipush 20, 2) := dk_get daX16_key 108 (r := (196, .bipush 20, 2)) rfl
theorem dX16_key_198 : decode cX16_key 198 = .ok (.iadd, 1) := dk_get daX16_key 109 (r := (198, .iadd, 1)) rfl
theorem dX16_key_199 : decode cX16_key 199 = .ok (.putfield 862, 3) := dk_get daX16_key 110 (r := (199, .putfield 862, 3)) rfl
theorem dX16_key_202 : decode cX16_key 202 = .ok (.aload_n 0, 1) := dk_get daX16_key 111 (r := (202, .aload_n 0, 1)) rfl
theorem dX16_key_203 : decode cX16_key 203 = .ok (.getfield 862, 3) := dk_get daX16_key 112 (r := (203, .getfield 862, 3)) rfl
theorem dX16_key_206 : decode cX16_key 206 = .ok (.ireturn, 1) := dk_get daX16_key 113 (r := (206, .ireturn, 1)) rfl
abbrev mX16_digest : ks_M := (RX16, cX16_digest, 2, (some .int), "digest")
def drX16_digest : List (Nat × Instr × Nat) := [(0, .aload_n 0, 1), (1, .iload_n 1, 1), (2, .ifCond .lt 12, 3), (5, .iload_n 1, 1), (6, .iconst 3, 1), (7, .if_icmp .gt 7, 3), (10, .iconst 1, 1), (11, .goto 4, 3), (14, .iconst 0, 1), (15, .iconst 1, 1), (16, .invokevirtual 891, 3), (19, .ifCond .ne 5, 3), (22, .iconst 0, 1), (23, .ireturn, 1), (24, .iload_n 1, 1), (25, .ifCond .ne 24, 3), (28, .aload_n 0, 1), (29, .aload_n 0, 1), (30, .getfield 801, 3), (33, .iconst 0, 1), (34, .aload_n 0, 1), (35, .getfield 862, 3), (38, .aload_n 0, 1), (39, .getfield 801, 3), (42, .iconst 0, 1), (43, .invokevirtual 83, 3), (46, .goto 73, 3), (49, .iload_n 1, 1), (50, .iconst 1, 1), (51, .if_icmp .ne 24, 3), (54, .aload_n 0, 1), (55, .aload_n 0, 1), (56, .getfield 801, 3), (59, .iconst 0, 1), (60, .aload_n 0, 1), (61, .getfield 862, 3), (64, .aload_n 0, 1), (65, .getfield 801, 3), (68, .iconst 0, 1), (69, .invokevirtual 87, 3), (72, .goto 47, 3), (75, .iload_n 1, 1), (76, .iconst 2, 1), (77, .if_icmp .ne 24, 3), (80, .aload_n 0, 1), (81, .aload_n 0, 1), (82, .getfield 801, 3), (85, .iconst 0, 1), (86, .aload_n 0, 1), (87, .getfield 862, 3), (90, .aload_n 0, 1), (91, .getfield 801, 3), (94, .iconst 0, 1), (95, .invokevirtual 639, 3), (98, .goto 21, 3), (101, .aload_n 0, 1), (102, .aload_n 0, 1), (103, .getfield 801, 3), (106, .iconst 0, 1), (107, .aload_n 0, 1), (108, .getfield 862, 3), (111, .aload_n 0, 1), (112, .getfield 801, 3), (115, .iconst 0, 1), (116, .invokevirtual 319, 3), (119, .aload_n 0, 1), (120, .iload_n 1, 1), (121, .iconst 1, 1), (122, .if_icmp .eq 8, 3), (125, .iload_n 1, 1), (126, .iconst 2, 1), (127, .if_icmp .ne 8, 3), (130, .bipush 20, 2), (132, .goto 5, 3), (135, .bipush 32, 2), (137, .putfield 862, 3), (140, .aload_n 0, 1), (141, .getfield 862, 3), (144, .ireturn, 1)]
set_option maxRecDepth 100000 in
theorem daX16_digest : dk_all cX16_digest drX16_digest = true := by decide +kernel
theorem dX16_digest_0 : decode cX16_digest 0 = .ok (.aload_n 0, 1) := dk_get daX16_digest 0 (r := (0, .aload_n 0, 1)) rfl
theorem dX16_digest_1 : decode cX16_digest 1 = .ok (.iload_n 1, 1) := dk_get daX16_digest 1 (r := (1, .iload_n 1, 1)) rfl
theorem dX16_digest_2 : decode cX16_digest 2 = .ok (.ifCond .lt 12, 3) := dk_get daX16_digest 2 (r := (2, .ifCond .lt 12, 3)) rfl
theorem dX16_digest_5 : decode cX16_digest 5 = .ok (.iload_n 1, 1) := dk_get daX16_digest 3 (r := (5, .iload_n 1, 1)) rfl
theorem dX16_digest_6 : decode cX16_digest 6 = .ok (.iconst 3, 1) := dk_get daX16_digest 4 (r := (6, .iconst 3, 1)) rfl
theorem dX16_digest_7 : decode cX16_digest 7 = .ok (.if_icmp .gt 7, 3) := dk_get daX16_digest 5 (r := (7, .if_icmp .gt 7, 3)) rfl
theorem dX16_digest_10 : decode cX16_digest 10 = .ok (.iconst 1, 1) := dk_get daX16_digest 6 (r := (10, .iconst 1, 1)) rfl
theorem dX16_digest_11 : decode cX16_digest 11 = .ok (.goto 4, 3) := dk_get daX16_digest 7 (r := (11, .goto 4, 3)) rfl
theorem dX16_digest_14 : decode cX16_digest 14 = .ok (.iconst 0, 1) := dk_get daX16_digest 8 (r := (14, .iconst 0, 1)) rfl
theorem dX16_digest_15 : decode cX16_digest 15 = .ok (.iconst 1, 1) := dk_get daX16_digest 9 (r := (15, .iconst 1, 1)) rfl
theorem dX16_digest_16 : decode cX16_digest 16 = .ok (.invokevirtual 891, 3) := dk_get daX16_digest 10 (r := (16, .invokevirtual 891, 3)) rfl
theorem dX16_digest_19 : decode cX16_digest 19 = .ok (.ifCond .ne 5, 3) := dk_get daX16_digest 11 (r := (19, .ifCond .ne 5, 3)) rfl
theorem dX16_digest_22 : decode cX16_digest 22 = .ok (.iconst 0, 1) := dk_get daX16_digest 12 (r := (22, .iconst 0, 1)) rfl
theorem dX16_digest_23 : decode cX16_digest 23 = .ok (.ireturn, 1) := dk_get daX16_digest 13 (r := (23, .ireturn, 1)) rfl
theorem dX16_digest_24 : decode cX16_digest 24 = .ok (.iload_n 1, 1) := dk_get daX16_digest 14 (r := (24, .iload_n 1, 1)) rfl
theorem dX16_digest_25 : decode cX16_digest 25 = .ok (.ifCond .ne 24, 3) := dk_get daX16_digest 15 (r := (25, .ifCond .ne 24, 3)) rfl
theorem dX16_digest_28 : decode cX16_digest 28 = .ok (.aload_n 0, 1) := dk_get daX16_digest 16 (r := (28, .aload_n 0, 1)) rfl
theorem dX16_digest_29 : decode cX16_digest 29 = .ok (.aload_n 0, 1) := dk_get daX16_digest 17 (r := (29, .aload_n 0, 1)) rfl
theorem dX16_digest_30 : decode cX16_digest 30 = .ok (.getfield 801, 3) := dk_get daX16_digest 18 (r := (30, .getfield 801, 3)) rfl
theorem dX16_digest_33 : decode cX16_digest 33 = .ok (.iconst 0, 1) := dk_get daX16_digest 19 (r := (33, .iconst 0, 1)) rfl
theorem dX16_digest_34 : decode cX16_digest 34 = .ok (.aload_n 0, 1) := dk_get daX16_digest 20 (r := (34, .aload_n 0, 1)) rfl
theorem dX16_digest_35 : decode cX16_digest 35 = .ok (.getfield 862, 3) := dk_get daX16_digest 21 (r := (35, .getfield 862, 3)) rfl
theorem dX16_digest_38 : decode cX16_digest 38 = .ok (.aload_n 0, 1) := dk_get daX16_digest 22 (r := (38, .aload_n 0, 1)) rfl
theorem dX16_digest_39 : decode cX16_digest 39 = .ok (.getfield 801, 3) := dk_get daX16_digest 23 (r := (39, .getfield 801, 3)) rfl
theorem dX16_digest_42 : decode cX16_digest 42 = .ok (.iconst 0, 1) := dk_get daX16_digest 24 (r := (42, .iconst 0, 1)) rfl
theorem dX16_digest_43 : decode cX16_digest 43 = .ok (.invokevirtual 83, 3) := dk_get daX16_digest 25 (r := (43, .invokevirtual 83, 3)) rfl
theorem dX16_digest_46 : decode cX16_digest 46 = .ok (.goto 73, 3) := dk_get daX16_digest 26 (r := (46, .goto 73, 3)) rfl
theorem dX16_digest_49 : decode cX16_digest 49 = .ok (.iload_n 1, 1) := dk_get daX16_digest 27 (r := (49, .iload_n 1, 1)) rfl
theorem dX16_digest_50 : decode cX16_digest 50 = .ok (.iconst 1, 1) := dk_get daX16_digest 28 (r := (50, .iconst 1, 1)) rfl
theorem dX16_digest_51 : decode cX16_digest 51 = .ok (.if_icmp .ne 24, 3) := dk_get daX16_digest 29 (r := (51, .if_icmp .ne 24, 3)) rfl
theorem dX16_digest_54 : decode cX16_digest 54 = .ok (.aload_n 0, 1) := dk_get daX16_digest 30 (r := (54, .aload_n 0, 1)) rfl
theorem dX16_digest_55 : decode cX16_digest 55 = .ok (.aload_n 0, 1) := dk_get daX16_digest 31 (r := (55, .aload_n 0, 1)) rfl
theorem dX16_digest_56 : decode cX16_digest 56 = .ok (.getfield 801, 3) := dk_get daX16_digest 32 (r := (56, .getfield 801, 3)) rfl
theorem dX16_digest_59 : decode cX16_digest 59 = .ok (.iconst 0, 1) := dk_get daX16_digest 33 (r := (59, .iconst 0, 1)) rfl
theorem dX16_digest_60 : decode cX16_digest 60 = .ok (.aload_n 0, 1) := dk_get daX16_digest 34 (r := (60, .aload_n 0, 1)) rfl
theorem dX16_digest_61 : decode cX16_digest 61 = .ok (.getfield 862, 3) := dk_get daX16_digest 35 (r := (61, .getfield 862, 3)) rfl
theorem dX16_digest_64 : decode cX16_digest 64 = .ok (.aload_n 0, 1) := dk_get daX16_digest 36 (r := (64, .aload_n 0, 1)) rfl
theorem dX16_digest_65 : decode cX16_digest 65 = .ok (.getfield 801, 3) := dk_get daX16_digest 37 (r := (65, .getfield 801, 3)) rfl
theorem dX16_digest_68 : decode cX16_digest 68 = .ok (.iconst 0, 1) := dk_get daX16_digest 38 (r := (68, .iconst 0, 1)) rfl
theorem dX16_digest_69 : decode cX16_digest 69 = .ok (.invokevirtual 87, 3) := dk_get daX16_digest 39 (r := (69, .invokevirtual 87, 3)) rfl
theorem dX16_digest_72 : decode cX16_digest 72 = .ok (.goto 47, 3) := dk_get daX16_digest 40 (r := (72, .goto 47, 3)) rfl
theorem dX16_digest_75 : decode cX16_digest 75 = .ok (.iload_n 1, 1) := dk_get daX16_digest 41 (r := (75, .iload_n 1, 1)) rfl
theorem dX16_digest_76 : decode cX16_digest 76 = .ok (.iconst 2, 1) := dk_get daX16_digest 42 (r := (76, .iconst 2, 1)) rfl
theorem dX16_digest_77 : decode cX16_digest 77 = .ok (.if_icmp .ne 24, 3) := dk_get daX16_digest 43 (r := (77, .if_icmp .ne 24, 3)) rfl
theorem dX16_digest_80 : decode cX16_digest 80 = .ok (.aload_n 0, 1) := dk_get daX16_digest 44 (r := (80, .aload_n 0, 1)) rfl
theorem dX16_digest_81 : decode cX16_digest 81 = .ok (.aload_n 0, 1) := dk_get daX16_digest 45 (r := (81, .aload_n 0, 1)) rfl
theorem dX16_digest_82 : decode cX16_digest 82 = .ok (.getfield 801, 3) := dk_get daX16_digest 46 (r := (82, .getfield 801, 3)) rfl
theorem dX16_digest_85 : decode cX16_digest 85 = .ok (.iconst 0, 1) := dk_get daX16_digest 47 (r := (85, .iconst 0, 1)) rfl
theorem dX16_digest_86 : decode cX16_digest 86 = .ok (.aload_n 0, 1) := dk_get daX16_digest 48 (r := (86, .aload_n 0, 1)) rfl
theorem dX16_digest_87 : decode cX16_digest 87 = .ok (.getfield 862, 3) := dk_get daX16_digest 49 (r := (87, .getfield 862, 3)) rfl
theorem dX16_digest_90 : decode cX16_digest 90 = .ok (.aload_n 0, 1) := dk_get daX16_digest 50 (r := (90, .aload_n 0, 1)) rfl
theorem dX16_digest_91 : decode cX16_digest 91 = .ok (.getfield 801, 3) := dk_get daX16_digest 51 (r := (91, .getfield 801, 3)) rfl
theorem dX16_digest_94 : decode cX16_digest 94 = .ok (.iconst 0, 1) := dk_get daX16_digest 52 (r := (94, .iconst 0, 1)) rfl
theorem dX16_digest_95 : decode cX16_digest 95 = .ok (.invokevirtual 639, 3) := dk_get daX16_digest 53 (r := (95, .invokevirtual 639, 3)) rfl
theorem dX16_digest_98 : decode cX16_digest 98 = .ok (.goto 21, 3) := dk_get daX16_digest 54 (r := (98, .goto 21, 3)) rfl
theorem dX16_digest_101 : decode cX16_digest 101 = .ok (.aload_n 0, 1) := dk_get daX16_digest 55 (r := (101, .aload_n 0, 1)) rfl
theorem dX16_digest_102 : decode cX16_digest 102 = .ok (.aload_n 0, 1) := dk_get daX16_digest 56 (r := (102, .aload_n 0, 1)) rfl
theorem dX16_digest_103 : decode cX16_digest 103 = .ok (.getfield 801, 3) := dk_get daX16_digest 57 (r := (103, .getfield 801, 3)) rfl
theorem dX16_digest_106 : decode cX16_digest 106 = .ok (.iconst 0, 1) := dk_get daX16_digest 58 (r := (106, .iconst 0, 1)) rfl
theorem dX16_digest_107 : decode cX16_digest 107 = .ok (.aload_n 0, 1) := dk_get daX16_digest 59 (r := (107, .aload_n 0, 1)) rfl
theorem dX16_digest_108 : decode cX16_digest 108 = .ok (.getfield 862, 3) := dk_get daX16_digest 60 (r := (108, .getfield 862, 3)) rfl
theorem dX16_digest_111 : decode cX16_digest 111 = .ok (.aload_n 0, 1) := dk_get daX16_digest 61 (r := (111, .aload_n 0, 1)) rfl
theorem dX16_digest_112 : decode cX16_digest 112 = .ok (.getfield 801, 3) := dk_get daX16_digest 62 (r := (112, .getfield 801, 3)) rfl
theorem dX16_digest_115 : decode cX16_digest 115 = .ok (.iconst 0, 1) := dk_get daX16_digest 63 (r := (115, .iconst 0, 1)) rfl
theorem dX16_digest_116 : decode cX16_digest 116 = .ok (.invokevirtual 319, 3) := dk_get daX16_digest 64 (r := (116, .invokevirtual 319, 3)) rfl
theorem dX16_digest_119 : decode cX16_digest 119 = .ok (.aload_n 0, 1) := dk_get daX16_digest 65 (r := (119, .aload_n 0, 1)) rfl
theorem dX16_digest_120 : decode cX16_digest 120 = .ok (.iload_n 1, 1) := dk_get daX16_digest 66 (r := (120, .iload_n 1, 1)) rfl
theorem dX16_digest_121 : decode cX16_digest 121 = .ok (.iconst 1, 1) := dk_get daX16_digest 67 (r := (121, .iconst 1, 1)) rfl
theorem dX16_digest_122 : decode cX16_digest 122 = .ok (.if_icmp .eq 8, 3) := dk_get daX16_digest 68 (r := (122, .if_icmp .eq 8, 3)) rfl
theorem dX16_digest_125 : decode cX16_digest 125 = .ok (.iload_n 1, 1) := dk_get daX16_digest 69 (r := (125, .iload_n 1, 1)) rfl
theorem dX16_digest_126 : decode cX16_digest 126 = .ok (.iconst 2, 1) := dk_get daX16_digest 70 (r := (126, .iconst 2, 1)) rfl
theorem dX16_digest_127 : decode cX16_digest 127 = .ok (.if_icmp .ne 8, 3) := dk_get daX16_digest 71 (r := (127, .if_icmp .ne 8, 3)) rfl
theorem dX16_digest_130 : decode cX16_digest 130 = .ok (.bipush 20, 2) := dk_get daX16_digest 72 (r := (130, .bipush 20, 2)) rfl
theorem dX16_digest_132 : decode cX16_digest 132 = .ok (.goto 5, 3) := dk_get daX16_digest 73 (r := (132, .goto 5, 3)) rfl
theorem dX16_digest_135 : decode cX16_digest 135 = .ok (.bipush 32, 2) := dk_get daX16_digest 74 (r := (135, .bipush 32, 2)) rfl
theorem dX16_digest_137 : decode cX16_digest 137 = .ok (.putfield 862, 3) := dk_get daX16_digest 75 (r := (137, .putfield 862, 3)) rfl
theorem dX16_digest_140 : decode cX16_digest 140 = .ok (.aload_n 0, 1) := dk_get daX16_digest 76 (r := (140, .aload_n 0, 1)) rfl
theorem dX16_digest_141 : decode cX16_digest 141 = .ok (.getfield 862, 3) := dk_get daX16_digest 77 (r := (141, .getfield 862, 3)) rfl
theorem dX16_digest_144 : decode cX16_digest 144 = .ok (.ireturn, 1) := dk_get daX16_digest 78 (r := (144, .ireturn, 1)) rfl
abbrev mX16_is32 : ks_M := (RX16, cX16_is32, 2, (some .boolean), "is32")
def drX16_is32 : List (Nat × Instr × Nat) := [(0, .lload_n 0, 1), (1, .lconst 0, 1), (2, .lcmp, 1), (3, .ifCond .lt 15, 3), (6, .lload_n 0, 1), (7, .ldc2_w 380, 3), (10, .lcmp, 1), (11, .ifCond .gt 7, 3), (14, .iconst 1, 1), (15, .goto 4, 3), (18, .iconst 0, 1), (19, .ireturn, 1)]
set_option maxRecDepth 100000 in
theorem daX16_is32 : dk_all cX16_is32 drX16_is32 = true := by decide +kernel
theorem dX16_is32_0 : decode cX16_is32 0 = .ok (.lload_n 0, 1) := dk_get daX16_is32 0 (r := (0, .lload_n 0, 1)) rfl
theorem dX16_is32_1 : decode cX16_is32 1 = .ok (.lconst 0, 1) := dk_get daX16_is32 1 (r := (1, .lconst 0, 1)) rfl
theorem dX16_is32_2 : decode cX16_is32 2 = .ok (.lcmp, 1) := dk_get daX16_is32 2 (r := (2, .lcmp, 1)) rfl
theorem dX16_is32_3 : decode cX16_is32 3 = .ok (.ifCond .lt 15, 3) := dk_get daX16_is32 3 (r := (3, .ifCond .lt 15, 3)) rfl
theorem dX16_is32_6 : decode cX16_is32 6 = .ok (.lload_n 0, 1) := dk_get daX16_is32 4 (r := (6, .lload_n 0, 1)) rfl
theorem dX16_is32_7 : decode cX16_is32 7 = .ok (.ldc2_w 380, 3) := dk_get daX16_is32 5 (r := (7, .ldc2_w 380, 3)) rfl
theorem dX16_is32_10 : decode cX16_is32 10 = .ok (.lcmp, 1) := dk_get daX16_is32 6 (r := (10, .lcmp, 1)) rfl
theorem dX16_is32_11 : decode cX16_is32 11 = .ok (.ifCond .gt 7, 3) := dk_get daX16_is32 7 (r := (11, .ifCond .gt 7, 3)) rfl
theorem dX16_is32_14 : decode cX16_is32 14 = .ok (.iconst 1, 1) := dk_get daX16_is32 8 (r := (14, .iconst 1, 1)) rfl
theorem dX16_is32_15 : decode cX16_is32 15 = .ok (.goto 4, 3) := dk_get daX16_is32 9 (r := (15, .goto 4, 3)) rfl
theorem dX16_is32_18 : decode cX16_is32 18 = .ok (.iconst 0, 1) := dk_get daX16_is32 10 (r := (18, .iconst 0, 1)) rfl
theorem dX16_is32_19 : decode cX16_is32 19 = .ok (.ireturn, 1) := dk_get daX16_is32 11 (r := (19, .ireturn, 1)) rfl
abbrev mX16_open : ks_M := (RX16, cX16_open, 4, none, "open")
def drX16_open : List (Nat × Instr × Nat) := [(0, .aload_n 0, 1), (1, .iload_n 1, 1), (2, .iconst (-1), 1), (3, .if_icmp .lt 22, 3), (6, .iload_n 1, 1), (7, .aload_n 0, 1), (8, .getfield 403, 3), (11, .if_icmp .ge 14, 3), (14, .lload_n 2, 1), (15, .invokestatic 905, 3), (18, .ifCond .eq 7, 3), (21, .iconst 1, 1), (22, .goto 4, 3), (25, .iconst 0, 1), (26, .iconst 1, 1), (27, .invokevirtual 891, 3), (30, .ifCond .ne 4, 3), (33, .return_, 1), (34, .aload_n 0, 1), (35, .iload_n 1, 1), (36, .ifCond .ge 10, 3), (39, .aload_n 0, 1), (40, .getfield 881, 3), (43, .goto 4, 3), (46, .iload_n 1, 1), (47, .putfield 859, 3), (50, .aload_n 0, 1), (51, .lload_n 2, 1), (52, .putfield 855, 3), (55, .aload_n 0, 1), (56, .iconst 0, 1), (57, .putfield 865, 3), (60, .return_, 1)]
set_option maxRecDepth 100000 in
theorem daX16_open : dk_all cX16_open drX16_open = true := by decide +kernel
theorem dX16_open_0 : decode cX16_open 0 = .ok (.aload_n 0, 1) := dk_get daX16_open 0 (r := (0, .aload_n 0, 1)) rfl
theorem dX16_open_1 : decode cX16_open 1 = .ok (.iload_n 1, 1) := dk_get daX16_open 1 (r := (1, .iload_n 1, 1)) rfl
theorem dX16_open_2 : decode cX16_open 2 = .ok (.iconst (-1), 1) := dk_get daX16_open 2 (r := (2, .iconst (-1), 1)) rfl
theorem dX16_open_3 : decode cX16_open 3 = .ok (.if_icmp .lt 22, 3) := dk_get daX16_open 3 (r := (3, .if_icmp .lt 22, 3)) rfl
theorem dX16_open_6 : decode cX16_open 6 = .ok (.iload_n 1, 1) := dk_get daX16_open 4 (r := (6, .iload_n 1, 1)) rfl
theorem dX16_open_7 : decode cX16_open 7 = .ok (.aload_n 0, 1) := dk_get daX16_open 5 (r := (7, .aload_n 0, 1)) rfl
theorem dX16_open_8 : decode cX16_open 8 = .ok (.getfield 403, 3) := dk_get daX16_open 6 (r := (8, .getfield 403, 3)) rfl
theorem dX16_open_11 : decode cX16_open 11 = .ok (.if_icmp .ge 14, 3) := dk_get daX16_open 7 (r := (11, .if_icmp .ge 14, 3)) rfl
theorem dX16_open_14 : decode cX16_open 14 = .ok (.lload_n 2, 1) := dk_get daX16_open 8 (r := (14, .lload_n 2, 1)) rfl
theorem dX16_open_15 : decode cX16_open 15 = .ok (.invokestatic 905, 3) := dk_get daX16_open 9 (r := (15, .invokestatic 905, 3)) rfl
theorem dX16_open_18 : decode cX16_open 18 = .ok (.ifCond .eq 7, 3) := dk_get daX16_open 10 (r := (18, .ifCond .eq 7, 3)) rfl
theorem dX16_open_21 : decode cX16_open 21 = .ok (.iconst 1, 1) := dk_get daX16_open 11 (r := (21, .iconst 1, 1)) rfl
theorem dX16_open_22 : decode cX16_open 22 = .ok (.goto 4, 3) := dk_get daX16_open 12 (r := (22, .goto 4, 3)) rfl
theorem dX16_open_25 : decode cX16_open 25 = .ok (.iconst 0, 1) := dk_get daX16_open 13 (r := (25, .iconst 0, 1)) rfl
theorem dX16_open_26 : decode cX16_open 26 = .ok (.iconst 1, 1) := dk_get daX16_open 14 (r := (26, .iconst 1, 1)) rfl
theorem dX16_open_27 : decode cX16_open 27 = .ok (.invokevirtual 891, 3) := dk_get daX16_open 15 (r := (27, .invokevirtual 891, 3)) rfl
theorem dX16_open_30 : decode cX16_open 30 = .ok (.ifCond .ne 4, 3) := dk_get daX16_open 16 (r := (30, .ifCond .ne 4, 3)) rfl
theorem dX16_open_33 : decode cX16_open 33 = .ok (.return_, 1) := dk_get daX16_open 17 (r := (33, .return_, 1)) rfl
theorem dX16_open_34 : decode cX16_open 34 = .ok (.aload_n 0, 1) := dk_get daX16_open 18 (r := (34, .aload_n 0, 1)) rfl
theorem dX16_open_35 : decode cX16_open 35 = .ok (.iload_n 1, 1) := dk_get daX16_open 19 (r := (35, .iload_n 1, 1)) rfl
theorem dX16_open_36 : decode cX16_open 36 = .ok (.ifCond .ge 10, 3) := dk_get daX16_open 20 (r := (36, .ifCond .ge 10, 3)) rfl
theorem dX16_open_39 : decode cX16_open 39 = .ok (.aload_n 0, 1) := dk_get daX16_open 21 (r := (39, .aload_n 0, 1)) rfl
theorem dX16_open_40 : decode cX16_open 40 = .ok (.getfield 881, 3) := dk_get daX16_open 22 (r := (40, .getfield 881, 3)) rfl
theorem dX16_open_43 : decode cX16_open 43 = .ok (.goto 4, 3) := dk_get daX16_open 23 (r := (43, .goto 4, 3)) rfl
theorem dX16_open_46 : decode cX16_open 46 = .ok (.iload_n 1, 1) := dk_get daX16_open 24 (r := (46, .iload_n 1, 1)) rfl
theorem dX16_open_47 : decode cX16_open 47 = .ok (.putfield 859, 3) := dk_get daX16_open 25 (r := (47, .putfield 859, 3)) rfl
theorem dX16_open_50 : decode cX16_open 50 = .ok (.aload_n 0, 1) := dk_get daX16_open 26 (r := (50, .aload_n 0, 1)) rfl
theorem dX16_open_51 : decode cX16_open 51 = .ok (.lload_n 2, 1) := dk_get daX16_open 27 (r := (51, .lload_n 2, 1)) rfl
theorem dX16_open_52 : decode cX16_open 52 = .ok (.putfield 855, 3) := dk_get daX16_open 28 (r := (52, .putfield 855, 3)) rfl
theorem dX16_open_55 : decode cX16_open 55 = .ok (.aload_n 0, 1) := dk_get daX16_open 29 (r := (55, .aload_n 0, 1)) rfl
theorem dX16_open_56 : decode cX16_open 56 = .ok (.iconst 0, 1) := dk_get daX16_open 30 (r := (56, .iconst 0, 1)) rfl
theorem dX16_open_57 : decode cX16_open 57 = .ok (.putfield 865, 3) := dk_get daX16_open 31 (r := (57, .putfield 865, 3)) rfl
theorem dX16_open_60 : decode cX16_open 60 = .ok (.return_, 1) := dk_get daX16_open 32 (r := (60, .return_, 1)) rfl
abbrev mX16_tx : ks_M := (RX16, cX16_tx, 5, (some .int), "tx")
def drX16_tx : List (Nat × Instr × Nat) := [(0, .aload_n 0, 1), (1, .lload_n 1, 1), (2, .invokestatic 905, 3), (5, .ifCond .eq 14, 3), (8, .lload_n 3, 1), (9, .invokestatic 905, 3), (12, .ifCond .eq 7, 3), (15, .iconst 1, 1), (16, .goto 4, 3), (19, .iconst 0, 1), (20, .iconst 1, 1), (21, .invokevirtual 891, 3), (24, .ifCond .eq 25, 3), (27, .aload_n 0, 1), (28, .aload_n 0, 1), (29, .getfield 865, 3), (32, .bipush 12, 2), (34, .if_icmp .ge 7, 3), (37, .iconst 1, 1), (38, .goto 4, 3), (41, .iconst 0, 1), (42, .iconst 2, 1), (43, .invokevirtual 891, 3), (46, .ifCond .ne 5, 3), (49, .iconst 0, 1), (50, .ireturn, 1), (51, .aload_n 0, 1), (52, .getfield 729, 3), (55, .aload_n 0, 1), (56, .getfield 865, 3), (59, .lload_n 1, 1), (60, .lastore, 1), (61, .aload_n 0, 1), (62, .getfield 764, 3), (65, .aload_n 0, 1), (66, .getfield 865, 3), (69, .lload_n 3, 1), (70, .lastore, 1), (71, .aload_n 0, 1), (72, .getfield 732, 3), (75, .aload_n 0, 1), (76, .getfield 865, 3), (79, .iconst 0, 1), (80, .iastore, 1), (81, .aload_n 0, 1), (82, .getfield 752, 3), (85, .aload_n 0, 1), (86, .getfield 865, 3), (89, .iconst 0, 1), (90, .iastore, 1), (91, .aload_n 0, 1), (92, .dup, 1), (93, .getfield 865, 3), (96, .iconst 1, 1), (97, .iadd, 1), (98, .putfield 865, 3), (101, .aload_n 0, 1), (102, .getfield 865, 3), (105, .ireturn, 1)]
set_option maxRecDepth 100000 in
theorem daX16_tx : dk_all cX16_tx drX16_tx = true := by decide +kernel
theorem dX16_tx_0 : decode cX16_tx 0 = .ok (.aload_n 0, 1) := dk_get daX16_tx 0 (r := (0, .aload_n 0, 1)) rfl
theorem dX16_tx_1 : decode cX16_tx 1 = .ok (.lload_n 1, 1) := dk_get daX16_tx 1 (r := (1, .lload_n 1, 1)) rfl
theorem dX16_tx_2 : decode cX16_tx 2 = .ok (.invokestatic 905, 3) := dk_get daX16_tx 2 (r := (2, .invokestatic 905, 3)) rfl
theorem dX16_tx_5 : decode cX16_tx 5 = .ok (.ifCond .eq 14, 3) := dk_get daX16_tx 3 (r := (5, .ifCond .eq 14, 3)) rfl
theorem dX16_tx_8 : decode cX16_tx 8 = .ok (.lload_n 3, 1) := dk_get daX16_tx 4 (r := (8, .lload_n 3, 1)) rfl
theorem dX16_tx_9 : decode cX16_tx 9 = .ok (.invokestatic 905, 3) := dk_get daX16_tx 5 (r := (9, .invokestatic 905, 3)) rfl
theorem dX16_tx_12 : decode cX16_tx 12 = .ok (.ifCond .eq 7, 3) := dk_get daX16_tx 6 (r := (12, .ifCond .eq 7, 3)) rfl
theorem dX16_tx_15 : decode cX16_tx 15 = .ok (.iconst 1, 1) := dk_get daX16_tx 7 (r := (15, .iconst 1, 1)) rfl
theorem dX16_tx_16 : decode cX16_tx 16 = .ok (.goto 4, 3) := dk_get daX16_tx 8 (r := (16, .goto 4, 3)) rfl
theorem dX16_tx_19 : decode cX16_tx 19 = .ok (.iconst 0, 1) := dk_get daX16_tx 9 (r := (19, .iconst 0, 1)) rfl
theorem dX16_tx_20 : decode cX16_tx 20 = .ok (.iconst 1, 1) := dk_get daX16_tx 10 (r := (20, .iconst 1, 1)) rfl
theorem dX16_tx_21 : decode cX16_tx 21 = .ok (.invokevirtual 891, 3) := dk_get daX16_tx 11 (r := (21, .invokevirtual 891, 3)) rfl
theorem dX16_tx_24 : decode cX16_tx 24 = .ok (.ifCond .eq 25, 3) := dk_get daX16_tx 12 (r := (24, .ifCond .eq 25, 3)) rfl
theorem dX16_tx_27 : decode cX16_tx 27 = .ok (.aload_n 0, 1) := dk_get daX16_tx 13 (r := (27, .aload_n 0, 1)) rfl
theorem dX16_tx_28 : decode cX16_tx 28 = .ok (.aload_n 0, 1) := dk_get daX16_tx 14 (r := (28, .aload_n 0, 1)) rfl
theorem dX16_tx_29 : decode cX16_tx 29 = .ok (.getfield 865, 3) := dk_get daX16_tx 15 (r := (29, .getfield 865, 3)) rfl
theorem dX16_tx_32 : decode cX16_tx 32 = .ok (.bipush 12, 2) := dk_get daX16_tx 16 (r := (32, .bipush 12, 2)) rfl
theorem dX16_tx_34 : decode cX16_tx 34 = .ok (.if_icmp .ge 7, 3) := dk_get daX16_tx 17 (r := (34, .if_icmp .ge 7, 3)) rfl
theorem dX16_tx_37 : decode cX16_tx 37 = .ok (.iconst 1, 1) := dk_get daX16_tx 18 (r := (37, .iconst 1, 1)) rfl
theorem dX16_tx_38 : decode cX16_tx 38 = .ok (.goto 4, 3) := dk_get daX16_tx 19 (r := (38, .goto 4, 3)) rfl
theorem dX16_tx_41 : decode cX16_tx 41 = .ok (.iconst 0, 1) := dk_get daX16_tx 20 (r := (41, .iconst 0, 1)) rfl
theorem dX16_tx_42 : decode cX16_tx 42 = .ok (.iconst 2, 1) := dk_get daX16_tx 21 (r := (42, .iconst 2, 1)) rfl
theorem dX16_tx_43 : decode cX16_tx 43 = .ok (.invokevirtual 891, 3) := dk_get daX16_tx 22 (r := (43, .invokevirtual 891, 3)) rfl
theorem dX16_tx_46 : decode cX16_tx 46 = .ok (.ifCond .ne 5, 3) := dk_get daX16_tx 23 (r := (46, .ifCond .ne 5, 3)) rfl
theorem dX16_tx_49 : decode cX16_tx 49 = .ok (.iconst 0, 1) := dk_get daX16_tx 24 (r := (49, .iconst 0, 1)) rfl
theorem dX16_tx_50 : decode cX16_tx 50 = .ok (.ireturn, 1) := dk_get daX16_tx 25 (r := (50, .ireturn, 1)) rfl
theorem dX16_tx_51 : decode cX16_tx 51 = .ok (.aload_n 0, 1) := dk_get daX16_tx 26 (r := (51, .aload_n 0, 1)) rfl
theorem dX16_tx_52 : decode cX16_tx 52 = .ok (.getfield 729, 3) := dk_get daX16_tx 27 (r := (52, .getfield 729, 3)) rfl
theorem dX16_tx_55 : decode cX16_tx 55 = .ok (.aload_n 0, 1) := dk_get daX16_tx 28 (r := (55, .aload_n 0, 1)) rfl
theorem dX16_tx_56 : decode cX16_tx 56 = .ok (.getfield 865, 3) := dk_get daX16_tx 29 (r := (56, .getfield 865, 3)) rfl
theorem dX16_tx_59 : decode cX16_tx 59 = .ok (.lload_n 1, 1) := dk_get daX16_tx 30 (r := (59, .lload_n 1, 1)) rfl
theorem dX16_tx_60 : decode cX16_tx 60 = .ok (.lastore, 1) := dk_get daX16_tx 31 (r := (60, .lastore, 1)) rfl
theorem dX16_tx_61 : decode cX16_tx 61 = .ok (.aload_n 0, 1) := dk_get daX16_tx 32 (r := (61, .aload_n 0, 1)) rfl
theorem dX16_tx_62 : decode cX16_tx 62 = .ok (.getfield 764, 3) := dk_get daX16_tx 33 (r := (62, .getfield 764, 3)) rfl
theorem dX16_tx_65 : decode cX16_tx 65 = .ok (.aload_n 0, 1) := dk_get daX16_tx 34 (r := (65, .aload_n 0, 1)) rfl
theorem dX16_tx_66 : decode cX16_tx 66 = .ok (.getfield 865, 3) := dk_get daX16_tx 35 (r := (66, .getfield 865, 3)) rfl
theorem dX16_tx_69 : decode cX16_tx 69 = .ok (.lload_n 3, 1) := dk_get daX16_tx 36 (r := (69, .lload_n 3, 1)) rfl
theorem dX16_tx_70 : decode cX16_tx 70 = .ok (.lastore, 1) := dk_get daX16_tx 37 (r := (70, .lastore, 1)) rfl
theorem dX16_tx_71 : decode cX16_tx 71 = .ok (.aload_n 0, 1) := dk_get daX16_tx 38 (r := (71, .aload_n 0, 1)) rfl
theorem dX16_tx_72 : decode cX16_tx 72 = .ok (.getfield 732, 3) := dk_get daX16_tx 39 (r := (72, .getfield 732, 3)) rfl
theorem dX16_tx_75 : decode cX16_tx 75 = .ok (.aload_n 0, 1) := dk_get daX16_tx 40 (r := (75, .aload_n 0, 1)) rfl
theorem dX16_tx_76 : decode cX16_tx 76 = .ok (.getfield 865, 3) := dk_get daX16_tx 41 (r := (76, .getfield 865, 3)) rfl
theorem dX16_tx_79 : decode cX16_tx 79 = .ok (.iconst 0, 1) := dk_get daX16_tx 42 (r := (79, .iconst 0, 1)) rfl
theorem dX16_tx_80 : decode cX16_tx 80 = .ok (.iastore, 1) := dk_get daX16_tx 43 (r := (80, .iastore, 1)) rfl
theorem dX16_tx_81 : decode cX16_tx 81 = .ok (.aload_n 0, 1) := dk_get daX16_tx 44 (r := (81, .aload_n 0, 1)) rfl
theorem dX16_tx_82 : decode cX16_tx 82 = .ok (.getfield 752, 3) := dk_get daX16_tx 45 (r := (82, .getfield 752, 3)) rfl
theorem dX16_tx_85 : decode cX16_tx 85 = .ok (.aload_n 0, 1) := dk_get daX16_tx 46 (r := (85, .aload_n 0, 1)) rfl
theorem dX16_tx_86 : decode cX16_tx 86 = .ok (.getfield 865, 3) := dk_get daX16_tx 47 (r := (86, .getfield 865, 3)) rfl
theorem dX16_tx_89 : decode cX16_tx 89 = .ok (.iconst 0, 1) := dk_get daX16_tx 48 (r := (89, .iconst 0, 1)) rfl
theorem dX16_tx_90 : decode cX16_tx 90 = .ok (.iastore, 1) := dk_get daX16_tx 49 (r := (90, .iastore, 1)) rfl
theorem dX16_tx_91 : decode cX16_tx 91 = .ok (.aload_n 0, 1) := dk_get daX16_tx 50 (r := (91, .aload_n 0, 1)) rfl
theorem dX16_tx_92 : decode cX16_tx 92 = .ok (.dup, 1) := dk_get daX16_tx 51 (r := (92, .dup, 1)) rfl
theorem dX16_tx_93 : decode cX16_tx 93 = .ok (.getfield 865, 3) := dk_get daX16_tx 52 (r := (93, .getfield 865, 3)) rfl
theorem dX16_tx_96 : decode cX16_tx 96 = .ok (.iconst 1, 1) := dk_get daX16_tx 53 (r := (96, .iconst 1, 1)) rfl
theorem dX16_tx_97 : decode cX16_tx 97 = .ok (.iadd, 1) := dk_get daX16_tx 54 (r := (97, .iadd, 1)) rfl
theorem dX16_tx_98 : decode cX16_tx 98 = .ok (.putfield 865, 3) := dk_get daX16_tx 55 (r := (98, .putfield 865, 3)) rfl
theorem dX16_tx_101 : decode cX16_tx 101 = .ok (.aload_n 0, 1) := dk_get daX16_tx 56 (r := (101, .aload_n 0, 1)) rfl
theorem dX16_tx_102 : decode cX16_tx 102 = .ok (.getfield 865, 3) := dk_get daX16_tx 57 (r := (102, .getfield 865, 3)) rfl
theorem dX16_tx_105 : decode cX16_tx 105 = .ok (.ireturn, 1) := dk_get daX16_tx 58 (r := (105, .ireturn, 1)) rfl
abbrev mX16_addInput : ks_M := (RX16, cX16_addInput, 6, none, "addInput")
def drX16_addInput : List (Nat × Instr × Nat) := [(0, .bipush 6, 2), (2, .iload_n 1, 1), (3, .imul, 1), (4, .aload_n 0, 1), (5, .getfield 732, 3), (8, .iload_n 1, 1), (9, .iaload, 1), (10, .iadd, 1), (11, .istore 4, 2), (13, .iconst 0, 1), (14, .istore 5, 2), (16, .iload 5, 2), (18, .bipush 36, 2), (20, .if_icmp .ge 35, 3), (23, .aload_n 0, 1), (24, .getfield 738, 3), (27, .bipush 36, 2), (29, .iload 4, 2), (31, .imul, 1), (32, .iload 5, 2), (34, .iadd, 1), (35, .iload 5, 2), (37, .bipush 32, 2), (39, .if_icmp .ge 7, 3), (42, .iconst 0, 1), (43, .goto 4, 3), (46, .iconst (-1), 1), (47, .i2b, 1), (48, .bastore, 1), (49, .iinc 5 1, 3), (52, .goto (-36), 3), (55, .aload_n 0, 1), (56, .getfield 749, 3), (59, .iload 4, 2), (61, .lload_n 2, 1), (62, .lastore, 1), (63, .iconst 0, 1), (64, .istore 5, 2), (66, .iload 5, 2), (68, .aload_n 0, 1), (69, .getfield 862, 3), (72, .if_icmp .ge 26, 3), (75, .aload_n 0, 1), (76, .getfield 746, 3), (79, .iload 4, 2), (81, .aaload, 1), (82, .iload 5, 2), (84, .aload_n 0, 1), (85, .getfield 801, 3), (88, .iload 5, 2), (90, .baload, 1), (91, .bastore, 1), (92, .iinc 5 1, 3), (95, .goto (-29), 3), (98, .aload_n 0, 1), (99, .getfield 743, 3), (102, .iload 4, 2), (104, .aload_n 0, 1), (105, .getfield 862, 3), (108, .iastore, 1), (109, .aload_n 0, 1), (110, .iconst 0, 1), (111, .putfield 862, 3), (114, .aload_n 0, 1), (115, .getfield 732, 3), (118, .iload_n 1, 1), (119, .dup2, 1), (120, .iaload, 1), (121, .iconst 1, 1), (122, .iadd, 1), (123, .iastore, 1), (124, .return_, 1)]
set_option maxRecDepth 100000 in
theorem daX16_addInput : dk_all cX16_addInput drX16_addInput = true := by decide +kernel
theorem dX16_addInput_0 : decode cX16_addInput 0 = .ok (.bipush 6, 2) := dk_get daX16_addInput 0 (r := (0, .bipush 6, 2)) rfl
theorem dX16_addInput_2 : decode cX16_addInput 2 = .ok (.iload_n 1, 1) := dk_get daX16_addInput 1 (r := (2, .iload_n 1, 1)) rfl
theorem dX16_addInput_3 : decode cX16_addInput 3 = .ok (.imul, 1) := dk_get daX16_addInput 2 (r := (3, .imul, 1)) rfl
theorem dX16_addInput_4 : decode cX16_addInput 4 = .ok (.aload_n 0, 1) := dk_get daX16_addInput 3 (r := (4, .aload_n 0, 1)) rfl
theorem dX16_addInput_5 : decode cX16_addInput 5 = .ok (.getfield 732, 3) := dk_get daX16_addInput 4 (r := (5, .getfield 732, 3)) rfl
theorem dX16_addInput_8 : decode cX16_addInput 8 = .ok (.iload_n 1, 1) := dk_get daX16_addInput 5 (r := (8, .iload_n 1, 1)) rfl
theorem dX16_addInput_9 : decode cX16_addInput 9 = .ok (.iaload, 1) := dk_get daX16_addInput 6 (r := (9, .iaload, 1)) rfl
theorem dX16_addInput_10 : decode cX16_addInput 10 = .ok (.iadd, 1) := dk_get daX16_addInput 7 (r := (10, .iadd, 1)) rfl
theorem dX16_addInput_11 : decode cX16_addInput 11 = .ok (.istore 4, 2) := dk_get daX16_addInput 8 (r := (11, .istore 4, 2)) rfl
theorem dX16_addInput_13 : decode cX16_addInput 13 = .ok (.iconst 0, 1) := dk_get daX16_addInput 9 (r := (13, .iconst 0, 1)) rfl
theorem dX16_addInput_14 : decode cX16_addInput 14 = .ok (.istore 5, 2) := dk_get daX16_addInput 10 (r := (14, .istore 5, 2)) rfl
theorem dX16_addInput_16 : decode cX16_addInput 16 = .ok (.iload 5, 2) := dk_get daX16_addInput 11 (r := (16, .iload 5, 2)) rfl
theorem dX16_addInput_18 : decode cX16_addInput 18 = .ok (.bipush 36, 2) := dk_get daX16_addInput 12 (r := (18, .bipush 36, 2)) rfl
theorem dX16_addInput_20 : decode cX16_addInput 20 = .ok (.if_icmp .ge 35, 3) := dk_get daX16_addInput 13 (r := (20, .if_icmp .ge 35, 3)) rfl
theorem dX16_addInput_23 : decode cX16_addInput 23 = .ok (.aload_n 0, 1) := dk_get daX16_addInput 14 (r := (23, .aload_n 0, 1)) rfl
theorem dX16_addInput_24 : decode cX16_addInput 24 = .ok (.getfield 738, 3) := dk_get daX16_addInput 15 (r := (24, .getfield 738, 3)) rfl
theorem dX16_addInput_27 : decode cX16_addInput 27 = .ok (.bipush 36, 2) := dk_get daX16_addInput 16 (r := (27, .bipush 36, 2)) rfl
theorem dX16_addInput_29 : decode cX16_addInput 29 = .ok (.iload 4, 2) := dk_get daX16_addInput 17 (r := (29, .iload 4, 2)) rfl
theorem dX16_addInput_31 : decode cX16_addInput 31 = .ok (.imul, 1) := dk_get daX16_addInput 18 (r := (31, .imul, 1)) rfl
theorem dX16_addInput_32 : decode cX16_addInput 32 = .ok (.iload 5, 2) := dk_get daX16_addInput 19 (r := (32, .iload 5, 2)) rfl
theorem dX16_addInput_34 : decode cX16_addInput 34 = .ok (.iadd, 1) := dk_get daX16_addInput 20 (r := (34, .iadd, 1)) rfl
theorem dX16_addInput_35 : decode cX16_addInput 35 = .ok (.iload 5, 2) := dk_get daX16_addInput 21 (r := (35, .iload 5, 2)) rfl
theorem dX16_addInput_37 : decode cX16_addInput 37 = .ok (.bipush 32, 2) := dk_get daX16_addInput 22 (r := (37, .bipush 32, 2)) rfl
theorem dX16_addInput_39 : decode cX16_addInput 39 = .ok (.if_icmp .ge 7, 3) := dk_get daX16_addInput 23 (r := (39, .if_icmp .ge 7, 3)) rfl
theorem dX16_addInput_42 : decode cX16_addInput 42 = .ok (.iconst 0, 1) := dk_get daX16_addInput 24 (r := (42, .iconst 0, 1)) rfl
theorem dX16_addInput_43 : decode cX16_addInput 43 = .ok (.goto 4, 3) := dk_get daX16_addInput 25 (r := (43, .goto 4, 3)) rfl
theorem dX16_addInput_46 : decode cX16_addInput 46 = .ok (.iconst (-1), 1) := dk_get daX16_addInput 26 (r := (46, .iconst (-1), 1)) rfl
theorem dX16_addInput_47 : decode cX16_addInput 47 = .ok (.i2b, 1) := dk_get daX16_addInput 27 (r := (47, .i2b, 1)) rfl
theorem dX16_addInput_48 : decode cX16_addInput 48 = .ok (.bastore, 1) := dk_get daX16_addInput 28 (r := (48, .bastore, 1)) rfl
theorem dX16_addInput_49 : decode cX16_addInput 49 = .ok (.iinc 5 1, 3) := dk_get daX16_addInput 29 (r := (49, .iinc 5 1, 3)) rfl
theorem dX16_addInput_52 : decode cX16_addInput 52 = .ok (.goto (-36), 3) := dk_get daX16_addInput 30 (r := (52, .goto (-36), 3)) rfl
theorem dX16_addInput_55 : decode cX16_addInput 55 = .ok (.aload_n 0, 1) := dk_get daX16_addInput 31 (r := (55, .aload_n 0, 1)) rfl
theorem dX16_addInput_56 : decode cX16_addInput 56 = .ok (.getfield 749, 3) := dk_get daX16_addInput 32 (r := (56, .getfield 749, 3)) rfl
theorem dX16_addInput_59 : decode cX16_addInput 59 = .ok (.iload 4, 2) := dk_get daX16_addInput 33 (r := (59, .iload 4, 2)) rfl
theorem dX16_addInput_61 : decode cX16_addInput 61 = .ok (.lload_n 2, 1) := dk_get daX16_addInput 34 (r := (61, .lload_n 2, 1)) rfl
theorem dX16_addInput_62 : decode cX16_addInput 62 = .ok (.lastore, 1) := dk_get daX16_addInput 35 (r := (62, .lastore, 1)) rfl
theorem dX16_addInput_63 : decode cX16_addInput 63 = .ok (.iconst 0, 1) := dk_get daX16_addInput 36 (r := (63, .iconst 0, 1)) rfl
theorem dX16_addInput_64 : decode cX16_addInput 64 = .ok (.istore 5, 2) := dk_get daX16_addInput 37 (r := (64, .istore 5, 2)) rfl
theorem dX16_addInput_66 : decode cX16_addInput 66 = .ok (.iload 5, 2) := dk_get daX16_addInput 38 (r := (66, .iload 5, 2)) rfl
theorem dX16_addInput_68 : decode cX16_addInput 68 = .ok (.aload_n 0, 1) := dk_get daX16_addInput 39 (r := (68, .aload_n 0, 1)) rfl
theorem dX16_addInput_69 : decode cX16_addInput 69 = .ok (.getfield 862, 3) := dk_get daX16_addInput 40 (r := (69, .getfield 862, 3)) rfl
theorem dX16_addInput_72 : decode cX16_addInput 72 = .ok (.if_icmp .ge 26, 3) := dk_get daX16_addInput 41 (r := (72, .if_icmp .ge 26, 3)) rfl
theorem dX16_addInput_75 : decode cX16_addInput 75 = .ok (.aload_n 0, 1) := dk_get daX16_addInput 42 (r := (75, .aload_n 0, 1)) rfl
theorem dX16_addInput_76 : decode cX16_addInput 76 = .ok (.getfield 746, 3) := dk_get daX16_addInput 43 (r := (76, .getfield 746, 3)) rfl
theorem dX16_addInput_79 : decode cX16_addInput 79 = .ok (.iload 4, 2) := dk_get daX16_addInput 44 (r := (79, .iload 4, 2)) rfl
theorem dX16_addInput_81 : decode cX16_addInput 81 = .ok (.aaload, 1) := dk_get daX16_addInput 45 (r := (81, .aaload, 1)) rfl
theorem dX16_addInput_82 : decode cX16_addInput 82 = .ok (.iload 5, 2) := dk_get daX16_addInput 46 (r := (82, .iload 5, 2)) rfl
theorem dX16_addInput_84 : decode cX16_addInput 84 = .ok (.aload_n 0, 1) := dk_get daX16_addInput 47 (r := (84, .aload_n 0, 1)) rfl
theorem dX16_addInput_85 : decode cX16_addInput 85 = .ok (.getfield 801, 3) := dk_get daX16_addInput 48 (r := (85, .getfield 801, 3)) rfl
theorem dX16_addInput_88 : decode cX16_addInput 88 = .ok (.iload 5, 2) := dk_get daX16_addInput 49 (r := (88, .iload 5, 2)) rfl
theorem dX16_addInput_90 : decode cX16_addInput 90 = .ok (.baload, 1) := dk_get daX16_addInput 50 (r := (90, .baload, 1)) rfl
theorem dX16_addInput_91 : decode cX16_addInput 91 = .ok (.bastore, 1) := dk_get daX16_addInput 51 (r := (91, .bastore, 1)) rfl
theorem dX16_addInput_92 : decode cX16_addInput 92 = .ok (.iinc 5 1, 3) := dk_get daX16_addInput 52 (r := (92, .iinc 5 1, 3)) rfl
theorem dX16_addInput_95 : decode cX16_addInput 95 = .ok (.goto (-29), 3) := dk_get daX16_addInput 53 (r := (95, .goto (-29), 3)) rfl
theorem dX16_addInput_98 : decode cX16_addInput 98 = .ok (.aload_n 0, 1) := dk_get daX16_addInput 54 (r := (98, .aload_n 0, 1)) rfl
theorem dX16_addInput_99 : decode cX16_addInput 99 = .ok (.getfield 743, 3) := dk_get daX16_addInput 55 (r := (99, .getfield 743, 3)) rfl
theorem dX16_addInput_102 : decode cX16_addInput 102 = .ok (.iload 4, 2) := dk_get daX16_addInput 56 (r := (102, .iload 4, 2)) rfl
theorem dX16_addInput_104 : decode cX16_addInput 104 = .ok (.aload_n 0, 1) := dk_get daX16_addInput 57 (r := (104, .aload_n 0, 1)) rfl
theorem dX16_addInput_105 : decode cX16_addInput 105 = .ok (.getfield 862, 3) := dk_get daX16_addInput 58 (r := (105, .getfield 862, 3)) rfl
theorem dX16_addInput_108 : decode cX16_addInput 108 = .ok (.iastore, 1) := dk_get daX16_addInput 59 (r := (108, .iastore, 1)) rfl
theorem dX16_addInput_109 : decode cX16_addInput 109 = .ok (.aload_n 0, 1) := dk_get daX16_addInput 60 (r := (109, .aload_n 0, 1)) rfl
theorem dX16_addInput_110 : decode cX16_addInput 110 = .ok (.iconst 0, 1) := dk_get daX16_addInput 61 (r := (110, .iconst 0, 1)) rfl
theorem dX16_addInput_111 : decode cX16_addInput 111 = .ok (.putfield 862, 3) := dk_get daX16_addInput 62 (r := (111, .putfield 862, 3)) rfl
theorem dX16_addInput_114 : decode cX16_addInput 114 = .ok (.aload_n 0, 1) := dk_get daX16_addInput 63 (r := (114, .aload_n 0, 1)) rfl
theorem dX16_addInput_115 : decode cX16_addInput 115 = .ok (.getfield 732, 3) := dk_get daX16_addInput 64 (r := (115, .getfield 732, 3)) rfl
theorem dX16_addInput_118 : decode cX16_addInput 118 = .ok (.iload_n 1, 1) := dk_get daX16_addInput 65 (r := (118, .iload_n 1, 1)) rfl
theorem dX16_addInput_119 : decode cX16_addInput 119 = .ok (.dup2, 1) := dk_get daX16_addInput 66 (r := (119, .dup2, 1)) rfl
theorem dX16_addInput_120 : decode cX16_addInput 120 = .ok (.iaload, 1) := dk_get daX16_addInput 67 (r := (120, .iaload, 1)) rfl
theorem dX16_addInput_121 : decode cX16_addInput 121 = .ok (.iconst 1, 1) := dk_get daX16_addInput 68 (r := (121, .iconst 1, 1)) rfl
theorem dX16_addInput_122 : decode cX16_addInput 122 = .ok (.iadd, 1) := dk_get daX16_addInput 69 (r := (122, .iadd, 1)) rfl
theorem dX16_addInput_123 : decode cX16_addInput 123 = .ok (.iastore, 1) := dk_get daX16_addInput 70 (r := (123, .iastore, 1)) rfl
theorem dX16_addInput_124 : decode cX16_addInput 124 = .ok (.return_, 1) := dk_get daX16_addInput 71 (r := (124, .return_, 1)) rfl
abbrev mX16_addOutput : ks_M := (RX16, cX16_addOutput, 6, none, "addOutput")
def drX16_addOutput : List (Nat × Instr × Nat) := [(0, .aload_n 0, 1), (1, .getfield 865, 3), (4, .iconst 1, 1), (5, .isub, 1), (6, .istore_n 3, 1), (7, .bipush 6, 2), (9, .iload_n 3, 1), (10, .imul, 1), (11, .aload_n 0, 1), (12, .getfield 752, 3), (15, .iload_n 3, 1), (16, .iaload, 1), (17, .iadd, 1), (18, .istore 4, 2), (20, .aload_n 0, 1), (21, .getfield 755, 3), (24, .iload 4, 2), (26, .lload_n 1, 1), (27, .lastore, 1), (28, .iconst 0, 1), (29, .istore 5, 2), (31, .iload 5, 2), (33, .aload_n 0, 1), (34, .getfield 862, 3), (37, .if_icmp .ge 26, 3), (40, .aload_n 0, 1), (41, .getfield 761, 3), (44, .iload 4, 2), (46, .aaload, 1), (47, .iload 5, 2), (49, .aload_n 0, 1), (50, .getfield 801, 3), (53, .iload 5, 2), (55, .baload, 1), (56, .bastore, 1), (57, .iinc 5 1, 3), (60, .goto (-29), 3), (63, .aload_n 0, 1), (64, .getfield 758, 3), (67, .iload 4, 2), (69, .aload_n 0, 1), (70, .getfield 862, 3), (73, .iastore, 1), (74, .aload_n 0, 1), (75, .iconst 0, 1), (76, .putfield 862, 3), (79, .aload_n 0, 1), (80, .getfield 752, 3), (83, .iload_n 3, 1), (84, .dup2, 1), (85, .iaload, 1), (86, .iconst 1, 1), (87, .iadd, 1), (88, .iastore, 1), (89, .return_, 1)]
set_option maxRecDepth 100000 in
theorem daX16_addOutput : dk_all cX16_addOutput drX16_addOutput = true := by decide +kernel
theorem dX16_addOutput_0 : decode cX16_addOutput 0 = .ok (.aload_n 0, 1) := dk_get daX16_addOutput 0 (r := (0, .aload_n 0, 1)) rfl
theorem dX16_addOutput_1 : decode cX16_addOutput 1 = .ok (.getfield 865, 3) := dk_get daX16_addOutput 1 (r := (1, .getfield 865, 3)) rfl
theorem dX16_addOutput_4 : decode cX16_addOutput 4 = .ok (.iconst 1, 1) := dk_get daX16_addOutput 2 (r := (4, .iconst 1, 1)) rfl
theorem dX16_addOutput_5 : decode cX16_addOutput 5 = .ok (.isub, 1) := dk_get daX16_addOutput 3 (r := (5, .isub, 1)) rfl
theorem dX16_addOutput_6 : decode cX16_addOutput 6 = .ok (.istore_n 3, 1) := dk_get daX16_addOutput 4 (r := (6, .istore_n 3, 1)) rfl
theorem dX16_addOutput_7 : decode cX16_addOutput 7 = .ok (.bipush 6, 2) := dk_get daX16_addOutput 5 (r := (7, .bipush 6, 2)) rfl
theorem dX16_addOutput_9 : decode cX16_addOutput 9 = .ok (.iload_n 3, 1) := dk_get daX16_addOutput 6 (r := (9, .iload_n 3, 1)) rfl
theorem dX16_addOutput_10 : decode cX16_addOutput 10 = .ok (.imul, 1) := dk_get daX16_addOutput 7 (r := (10, .imul, 1)) rfl
theorem dX16_addOutput_11 : decode cX16_addOutput 11 = .ok (.aload_n 0, 1) := dk_get daX16_addOutput 8 (r := (11, .aload_n 0, 1)) rfl
theorem dX16_addOutput_12 : decode cX16_addOutput 12 = .ok (.getfield 752, 3) := dk_get daX16_addOutput 9 (r := (12, .getfield 752, 3)) rfl
theorem dX16_addOutput_15 : decode cX16_addOutput 15 = .ok (.iload_n 3, 1) := dk_get daX16_addOutput 10 (r := (15, .iload_n 3, 1)) rfl
theorem dX16_addOutput_16 : decode cX16_addOutput 16 = .ok (.iaload, 1) := dk_get daX16_addOutput 11 (r := (16, .iaload, 1)) rfl
theorem dX16_addOutput_17 : decode cX16_addOutput 17 = .ok (.iadd, 1) := dk_get daX16_addOutput 12 (r := (17, .iadd, 1)) rfl
theorem dX16_addOutput_18 : decode cX16_addOutput 18 = .ok (.istore 4, 2) := dk_get daX16_addOutput 13 (r := (18, .istore 4, 2)) rfl
theorem dX16_addOutput_20 : decode cX16_addOutput 20 = .ok (.aload_n 0, 1) := dk_get daX16_addOutput 14 (r := (20, .aload_n 0, 1)) rfl
theorem dX16_addOutput_21 : decode cX16_addOutput 21 = .ok (.getfield 755, 3) := dk_get daX16_addOutput 15 (r := (21, .getfield 755, 3)) rfl
theorem dX16_addOutput_24 : decode cX16_addOutput 24 = .ok (.iload 4, 2) := dk_get daX16_addOutput 16 (r := (24, .iload 4, 2)) rfl
theorem dX16_addOutput_26 : decode cX16_addOutput 26 = .ok (.lload_n 1, 1) := dk_get daX16_addOutput 17 (r := (26, .lload_n 1, 1)) rfl
theorem dX16_addOutput_27 : decode cX16_addOutput 27 = .ok (.lastore, 1) := dk_get daX16_addOutput 18 (r := (27, .lastore, 1)) rfl
theorem dX16_addOutput_28 : decode cX16_addOutput 28 = .ok (.iconst 0, 1) := dk_get daX16_addOutput 19 (r := (28, .iconst 0, 1)) rfl
theorem dX16_addOutput_29 : decode cX16_addOutput 29 = .ok (.istore 5, 2) := dk_get daX16_addOutput 20 (r := (29, .istore 5, 2)) rfl
theorem dX16_addOutput_31 : decode cX16_addOutput 31 = .ok (.iload 5, 2) := dk_get daX16_addOutput 21 (r := (31, .iload 5, 2)) rfl
theorem dX16_addOutput_33 : decode cX16_addOutput 33 = .ok (.aload_n 0, 1) := dk_get daX16_addOutput 22 (r := (33, .aload_n 0, 1)) rfl
theorem dX16_addOutput_34 : decode cX16_addOutput 34 = .ok (.getfield 862, 3) := dk_get daX16_addOutput 23 (r := (34, .getfield 862, 3)) rfl
theorem dX16_addOutput_37 : decode cX16_addOutput 37 = .ok (.if_icmp .ge 26, 3) := dk_get daX16_addOutput 24 (r := (37, .if_icmp .ge 26, 3)) rfl
theorem dX16_addOutput_40 : decode cX16_addOutput 40 = .ok (.aload_n 0, 1) := dk_get daX16_addOutput 25 (r := (40, .aload_n 0, 1)) rfl
theorem dX16_addOutput_41 : decode cX16_addOutput 41 = .ok (.getfield 761, 3) := dk_get daX16_addOutput 26 (r := (41, .getfield 761, 3)) rfl
theorem dX16_addOutput_44 : decode cX16_addOutput 44 = .ok (.iload 4, 2) := dk_get daX16_addOutput 27 (r := (44, .iload 4, 2)) rfl
theorem dX16_addOutput_46 : decode cX16_addOutput 46 = .ok (.aaload, 1) := dk_get daX16_addOutput 28 (r := (46, .aaload, 1)) rfl
theorem dX16_addOutput_47 : decode cX16_addOutput 47 = .ok (.iload 5, 2) := dk_get daX16_addOutput 29 (r := (47, .iload 5, 2)) rfl
theorem dX16_addOutput_49 : decode cX16_addOutput 49 = .ok (.aload_n 0, 1) := dk_get daX16_addOutput 30 (r := (49, .aload_n 0, 1)) rfl
theorem dX16_addOutput_50 : decode cX16_addOutput 50 = .ok (.getfield 801, 3) := dk_get daX16_addOutput 31 (r := (50, .getfield 801, 3)) rfl
theorem dX16_addOutput_53 : decode cX16_addOutput 53 = .ok (.iload 5, 2) := dk_get daX16_addOutput 32 (r := (53, .iload 5, 2)) rfl
theorem dX16_addOutput_55 : decode cX16_addOutput 55 = .ok (.baload, 1) := dk_get daX16_addOutput 33 (r := (55, .baload, 1)) rfl
theorem dX16_addOutput_56 : decode cX16_addOutput 56 = .ok (.bastore, 1) := dk_get daX16_addOutput 34 (r := (56, .bastore, 1)) rfl
theorem dX16_addOutput_57 : decode cX16_addOutput 57 = .ok (.iinc 5 1, 3) := dk_get daX16_addOutput 35 (r := (57, .iinc 5 1, 3)) rfl
theorem dX16_addOutput_60 : decode cX16_addOutput 60 = .ok (.goto (-29), 3) := dk_get daX16_addOutput 36 (r := (60, .goto (-29), 3)) rfl
theorem dX16_addOutput_63 : decode cX16_addOutput 63 = .ok (.aload_n 0, 1) := dk_get daX16_addOutput 37 (r := (63, .aload_n 0, 1)) rfl
theorem dX16_addOutput_64 : decode cX16_addOutput 64 = .ok (.getfield 758, 3) := dk_get daX16_addOutput 38 (r := (64, .getfield 758, 3)) rfl
theorem dX16_addOutput_67 : decode cX16_addOutput 67 = .ok (.iload 4, 2) := dk_get daX16_addOutput 39 (r := (67, .iload 4, 2)) rfl
theorem dX16_addOutput_69 : decode cX16_addOutput 69 = .ok (.aload_n 0, 1) := dk_get daX16_addOutput 40 (r := (69, .aload_n 0, 1)) rfl
theorem dX16_addOutput_70 : decode cX16_addOutput 70 = .ok (.getfield 862, 3) := dk_get daX16_addOutput 41 (r := (70, .getfield 862, 3)) rfl
theorem dX16_addOutput_73 : decode cX16_addOutput 73 = .ok (.iastore, 1) := dk_get daX16_addOutput 42 (r := (73, .iastore, 1)) rfl
theorem dX16_addOutput_74 : decode cX16_addOutput 74 = .ok (.aload_n 0, 1) := dk_get daX16_addOutput 43 (r := (74, .aload_n 0, 1)) rfl
theorem dX16_addOutput_75 : decode cX16_addOutput 75 = .ok (.iconst 0, 1) := dk_get daX16_addOutput 44 (r := (75, .iconst 0, 1)) rfl
theorem dX16_addOutput_76 : decode cX16_addOutput 76 = .ok (.putfield 862, 3) := dk_get daX16_addOutput 45 (r := (76, .putfield 862, 3)) rfl
theorem dX16_addOutput_79 : decode cX16_addOutput 79 = .ok (.aload_n 0, 1) := dk_get daX16_addOutput 46 (r := (79, .aload_n 0, 1)) rfl
theorem dX16_addOutput_80 : decode cX16_addOutput 80 = .ok (.getfield 752, 3) := dk_get daX16_addOutput 47 (r := (80, .getfield 752, 3)) rfl
theorem dX16_addOutput_83 : decode cX16_addOutput 83 = .ok (.iload_n 3, 1) := dk_get daX16_addOutput 48 (r := (83, .iload_n 3, 1)) rfl
theorem dX16_addOutput_84 : decode cX16_addOutput 84 = .ok (.dup2, 1) := dk_get daX16_addOutput 49 (r := (84, .dup2, 1)) rfl
theorem dX16_addOutput_85 : decode cX16_addOutput 85 = .ok (.iaload, 1) := dk_get daX16_addOutput 50 (r := (85, .iaload, 1)) rfl
theorem dX16_addOutput_86 : decode cX16_addOutput 86 = .ok (.iconst 1, 1) := dk_get daX16_addOutput 51 (r := (86, .iconst 1, 1)) rfl
theorem dX16_addOutput_87 : decode cX16_addOutput 87 = .ok (.iadd, 1) := dk_get daX16_addOutput 52 (r := (87, .iadd, 1)) rfl
theorem dX16_addOutput_88 : decode cX16_addOutput 88 = .ok (.iastore, 1) := dk_get daX16_addOutput 53 (r := (88, .iastore, 1)) rfl
theorem dX16_addOutput_89 : decode cX16_addOutput 89 = .ok (.return_, 1) := dk_get daX16_addOutput 54 (r := (89, .return_, 1)) rfl
abbrev mX16_input_ : ks_M := (RX16, cX16_input_, 10, (some .int), "input")
def drX16_input_ : List (Nat × Instr × Nat) := [(0, .iload_n 1, 1), (1, .iconst (-1), 1), (2, .if_icmp .eq 53, 3), (5, .iload_n 1, 1), (6, .bipush (-2), 2), (8, .if_icmp .ne 15, 3), (11, .iload_n 2, 1), (12, .ifCond .lt 11, 3), (15, .iload_n 2, 1), (16, .aload_n 0, 1), (17, .getfield 865, 3), (20, .if_icmp .lt 35, 3), (23, .iload_n 1, 1), (24, .ifCond .lt 35, 3), (27, .iload_n 1, 1), (28, .aload_n 0, 1), (29, .getfield 403, 3), (32, .if_icmp .ge 27, 3), (35, .iload_n 2, 1), (36, .ifCond .lt 23, 3), (39, .iload_n 2, 1), (40, .aload_n 0, 1), (41, .getfield 347, 3), (44, .iload_n 1, 1), (45, .aaload, 1), (46, .getfield 457, 3), (49, .getfield 288, 3), (52, .if_icmp .ge 7, 3), (55, .iconst 1, 1), (56, .goto 4, 3), (59, .iconst 0, 1), (60, .istore 6, 2), (62, .aload_n 0, 1), (63, .iload 6, 2), (65, .ifCond .eq 15, 3), (68, .lload 4, 2), (70, .invokestatic 905, 3), (73, .ifCond .eq 7, 3), (76, .iconst 1, 1), (77, .goto 4, 3), (80, .iconst 0, 1), (81, .iconst 1, 1), (82, .invokevirtual 891, 3), (85, .ifCond .eq 62, 3), (88, .aload_n 0, 1), (89, .aload_n 0, 1), (90, .getfield 865, 3), (93, .ifCond .le 7, 3), (96, .iconst 1, 1), (97, .goto 4, 3), (100, .iconst 0, 1), (101, .iconst 2, 1), (102, .invokevirtual 891, 3), (105, .ifCond .eq 42, 3), (108, .aload_n 0, 1), (109, .aload_n 0, 1), (110, .getfield 732, 3), (113, .aload_n 0, 1), (114, .getfield 865, 3), (117, .iconst 1, 1), (118, .isub, 1), (119, .iaload, 1), (120, .bipush 6, 2), (122, .if_icmp .ge 17, 3), (125, .aload_n 0, 1), (126, .getfield 862, 3), (129, .sipush 600, 3), (132, .if_icmp .gt 7, 3), (135, .iconst 1, 1), (136, .goto 4, 3), (139, .iconst 0, 1), (140, .iconst 3, 1), (141, .invokevirtual 891, 3), (144, .ifCond .ne 5, 3), (147, .iconst 0, 1), (148, .ireturn, 1), (149, .iload_n 1, 1), (150, .bipush (-2), 2), (152, .if_icmp .ne 8, 3), (155, .aload_n 0, 1), (156, .iload_n 2, 1), (157, .invokevirtual 909, 3), (160, .bipush 6, 2), (162, .aload_n 0, 1), (163, .getfield 865, 3), (166, .iconst 1, 1), (167, .isub, 1), (168, .imul, 1), (169, .aload_n 0, 1), (170, .getfield 732, 3), (173, .aload_n 0, 1), (174, .getfield 865, 3), (177, .iconst 1, 1), (178, .isub, 1), (179, .iaload, 1), (180, .iadd, 1), (181, .istore 7, 2), (183, .aload_n 0, 1), (184, .aload_n 0, 1), (185, .getfield 865, 3), (188, .iconst 1, 1), (189, .isub, 1), (190, .lload 4, 2), (192, .invokevirtual 868, 3), (195, .iload_n 1, 1), (196, .iconst (-1), 1), (197, .if_icmp .eq 108, 3), (200, .iload_n 1, 1), (201, .bipush (-2), 2), (203, .if_icmp .ne 10, 3), (206, .aload_n 0, 1), (207, .getfield 770, 3), (210, .goto 15, 3), (213, .aload_n 0, 1), (214, .getfield 347, 3), (217, .iload_n 1, 1), (218, .aaload, 1), (219, .getfield 457, 3), (222, .getfield 316, 3), (225, .astore 8, 2), (227, .iconst 0, 1), (228, .istore 9, 2), (230, .iload 9, 2), (232, .bipush 32, 2), (234, .if_icmp .ge 32, 3), (237, .aload_n 0, 1), (238, .getfield 738, 3), (241, .bipush 36, 2), (243, .iload 7, 2), (245, .imul, 1), (246, .iload 9, 2), (248, .iadd, 1), (249, .aload 8, 2), (251, .bipush 32, 2), (253, .iload_n 2, 1), (254, .imul, 1), (255, .iload 9, 2), (257, .iadd, 1), (258, .baload, 1), (259, .bastore, 1), (260, .iinc 9 1, 3), (263, .goto (-33), 3), (266, .iconst 0, 1), (267, .istore 9, 2), (269, .iload 9, 2), (271, .iconst 4, 1), (272, .if_icmp .ge 33, 3), (275, .aload_n 0, 1), (276, .getfield 738, 3), (279, .bipush 36, 2), (281, .iload 7, 2), (283, .imul, 1), (284, .bipush 32, 2), (286, .iadd, 1), (287, .iload 9, 2), (289, .iadd, 1), (290, .iload_n 3, 1), (291, .bipush 8, 2), (293, .iload 9, 2), (295, .imul, 1), (296, .iushr, 1), (297, .i2b, 1), (298, .bastore, 1), (299, .iinc 9 1, 3), (302, .goto (-33), 3), (305, .aload_n 0, 1), (306, .getfield 732, 3), (309, .aload_n 0, 1), (310, .getfield 865, 3), (313, .iconst 1, 1), (314, .isub, 1), (315, .iaload, 1), (316, .ireturn, 1)]
set_option maxRecDepth 100000 in
theorem daX16_input_ : dk_all cX16_input_ drX16_input_ = true := by decide +kernel
theorem dX16_input__0 : decode cX16_input_ 0 = .ok (.iload_n 1, 1) := dk_get daX16_input_ 0 (r := (0, .iload_n 1, 1)) rfl
theorem dX16_input__1 : decode cX16_input_ 1 = .ok (.iconst (-1), 1) := dk_get daX16_input_ 1 (r := (1, .iconst (-1), 1)) rfl
theorem dX16_input__2 : decode cX16_input_ 2 = .ok (.if_icmp .eq 53, 3) := dk_get daX16_input_ 2 (r := (2, .if_icmp .eq 53, 3)) rfl
theorem dX16_input__5 : decode cX16_input_ 5 = .ok (.iload_n 1, 1) := dk_get daX16_input_ 3 (r := (5, .iload_n 1, 1)) rfl
theorem dX16_input__6 : decode cX16_input_ 6 = .ok (.bipush (-2), 2) := dk_get daX16_input_ 4 (r := (6, .bipush (-2), 2)) rfl
theorem dX16_input__8 : decode cX16_input_ 8 = .ok (.if_icmp .ne 15, 3) := dk_get daX16_input_ 5 (r := (8, .if_icmp .ne 15, 3)) rfl
theorem dX16_input__11 : decode cX16_input_ 11 = .ok (.iload_n 2, 1) := dk_get daX16_input_ 6 (r := (11, .iload_n 2, 1)) rfl
theorem dX16_input__12 : decode cX16_input_ 12 = .ok (.ifCond .lt 11, 3) := dk_get daX16_input_ 7 (r := (12, .ifCond .lt 11, 3)) rfl
theorem dX16_input__15 : decode cX16_input_ 15 = .ok (.iload_n 2, 1) := dk_get daX16_input_ 8 (r := (15, .iload_n 2, 1)) rfl
theorem dX16_input__16 : decode cX16_input_ 16 = .ok (.aload_n 0, 1) := dk_get daX16_input_ 9 (r := (16, .aload_n 0, 1)) rfl
theorem dX16_input__17 : decode cX16_input_ 17 = .ok (.getfield 865, 3) := dk_get daX16_input_ 10 (r := (17, .getfield 865, 3)) rfl
theorem dX16_input__20 : decode cX16_input_ 20 = .ok (.if_icmp .lt 35, 3) := dk_get daX16_input_ 11 (r := (20, .if_icmp .lt 35, 3)) rfl
theorem dX16_input__23 : decode cX16_input_ 23 = .ok (.iload_n 1, 1) := dk_get daX16_input_ 12 (r := (23, .iload_n 1, 1)) rfl
theorem dX16_input__24 : decode cX16_input_ 24 = .ok (.ifCond .lt 35, 3) := dk_get daX16_input_ 13 (r := (24, .ifCond .lt 35, 3)) rfl
theorem dX16_input__27 : decode cX16_input_ 27 = .ok (.iload_n 1, 1) := dk_get daX16_input_ 14 (r := (27, .iload_n 1, 1)) rfl
theorem dX16_input__28 : decode cX16_input_ 28 = .ok (.aload_n 0, 1) := dk_get daX16_input_ 15 (r := (28, .aload_n 0, 1)) rfl
theorem dX16_input__29 : decode cX16_input_ 29 = .ok (.getfield 403, 3) := dk_get daX16_input_ 16 (r := (29, .getfield 403, 3)) rfl
theorem dX16_input__32 : decode cX16_input_ 32 = .ok (.if_icmp .ge 27, 3) := dk_get daX16_input_ 17 (r := (32, .if_icmp .ge 27, 3)) rfl
theorem dX16_input__35 : decode cX16_input_ 35 = .ok (.iload_n 2, 1) := dk_get daX16_input_ 18 (r := (35, .iload_n 2, 1)) rfl
theorem dX16_input__36 : decode cX16_input_ 36 = .ok (.ifCond .lt 23, 3) := dk_get daX16_input_ 19 (r := (36, .ifCond .lt 23, 3)) rfl
theorem dX16_input__39 : decode cX16_input_ 39 = .ok (.iload_n 2, 1) := dk_get daX16_input_ 20 (r := (39, .iload_n 2, 1)) rfl
theorem dX16_input__40 : decode cX16_input_ 40 = .ok (.aload_n 0, 1) := dk_get daX16_input_ 21 (r := (40, .aload_n 0, 1)) rfl
theorem dX16_input__41 : decode cX16_input_ 41 = .ok (.getfield 347, 3) := dk_get daX16_input_ 22 (r := (41, .getfield 347, 3)) rfl
theorem dX16_input__44 : decode cX16_input_ 44 = .ok (.iload_n 1, 1) := dk_get daX16_input_ 23 (r := (44, .iload_n 1, 1)) rfl
theorem dX16_input__45 : decode cX16_input_ 45 = .ok (.aaload, 1) := dk_get daX16_input_ 24 (r := (45, .aaload, 1)) rfl
theorem dX16_input__46 : decode cX16_input_ 46 = .ok (.getfield 457, 3) := dk_get daX16_input_ 25 (r := (46, .getfield 457, 3)) rfl
theorem dX16_input__49 : decode cX16_input_ 49 = .ok (.getfield 288, 3) := dk_get daX16_input_ 26 (r := (49, .getfield 288, 3)) rfl
theorem dX16_input__52 : decode cX16_input_ 52 = .ok (.if_icmp .ge 7, 3) := dk_get daX16_input_ 27 (r := (52, .if_icmp .ge 7, 3)) rfl
theorem dX16_input__55 : decode cX16_input_ 55 = .ok (.iconst 1, 1) := dk_get daX16_input_ 28 (r := (55, .iconst 1, 1)) rfl
theorem dX16_input__56 : decode cX16_input_ 56 = .ok (.goto 4, 3) := dk_get daX16_input_ 29 (r := (56, .goto 4, 3)) rfl
theorem dX16_input__59 : decode cX16_input_ 59 = .ok (.iconst 0, 1) := dk_get daX16_input_ 30 (r := (59, .iconst 0, 1)) rfl
theorem dX16_input__60 : decode cX16_input_ 60 = .ok (.istore 6, 2) := dk_get daX16_input_ 31 (r := (60, .istore 6, 2)) rfl
theorem dX16_input__62 : decode cX16_input_ 62 = .ok (.aload_n 0, 1) := dk_get daX16_input_ 32 (r := (62, .aload_n 0, 1)) rfl
theorem dX16_input__63 : decode cX16_input_ 63 = .ok (.iload 6, 2) := dk_get daX16_input_ 33 (r := (63, .iload 6, 2)) rfl
theorem dX16_input__65 : decode cX16_input_ 65 = .ok (.ifCond .eq 15, 3) := dk_get daX16_input_ 34 (r := (65, .ifCond .eq 15, 3)) rfl
theorem dX16_input__68 : decode cX16_input_ 68 = .ok (.lload 4, 2) := dk_get daX16_input_ 35 (r := (68, .lload 4, 2)) rfl
theorem dX16_input__70 : decode cX16_input_ 70 = .ok (.invokestatic 905, 3) := dk_get daX16_input_ 36 (r := (70, .invokestatic 905, 3)) rfl
theorem dX16_input__73 : decode cX16_input_ 73 = .ok (.ifCond .eq 7, 3) := dk_get daX16_input_ 37 (r := (73, .ifCond .eq 7, 3)) rfl
theorem dX16_input__76 : decode cX16_input_ 76 = .ok (.iconst 1, 1) := dk_get daX16_input_ 38 (r := (76, .iconst 1, 1)) rfl
theorem dX16_input__77 : decode cX16_input_ 77 = .ok (.goto 4, 3) := dk_get daX16_input_ 39 (r := (77, .goto 4, 3)) rfl
theorem dX16_input__80 : decode cX16_input_ 80 = .ok (.iconst 0, 1) := dk_get daX16_input_ 40 (r := (80, .iconst 0, 1)) rfl
theorem dX16_input__81 : decode cX16_input_ 81 = .ok (.iconst 1, 1) := dk_get daX16_input_ 41 (r := (81, .iconst 1, 1)) rfl
theorem dX16_input__82 : decode cX16_input_ 82 = .ok (.invokevirtual 891, 3) := dk_get daX16_input_ 42 (r := (82, .invokevirtual 891, 3)) rfl
theorem dX16_input__85 : decode cX16_input_ 85 = .ok (.ifCond .eq 62, 3) := dk_get daX16_input_ 43 (r := (85, .ifCond .eq 62, 3)) rfl
theorem dX16_input__88 : decode cX16_input_ 88 = .ok (.aload_n 0, 1) := dk_get daX16_input_ 44 (r := (88, .aload_n 0, 1)) rfl
theorem dX16_input__89 : decode cX16_input_ 89 = .ok (.aload_n 0, 1) := dk_get daX16_input_ 45 (r := (89, .aload_n 0, 1)) rfl
theorem dX16_input__90 : decode cX16_input_ 90 = .ok (.getfield 865, 3) := dk_get daX16_input_ 46 (r := (90, .getfield 865, 3)) rfl
theorem dX16_input__93 : decode cX16_input_ 93 = .ok (.ifCond .le 7, 3) := dk_get daX16_input_ 47 (r := (93, .ifCond .le 7, 3)) rfl
theorem dX16_input__96 : decode cX16_input_ 96 = .ok (.iconst 1, 1) := dk_get daX16_input_ 48 (r := (96, .iconst 1, 1)) rfl
theorem dX16_input__97 : decode cX16_input_ 97 = .ok (.goto 4, 3) := dk_get daX16_input_ 49 (r := (97, .goto 4, 3)) rfl
theorem dX16_input__100 : decode cX16_input_ 100 = .ok (.iconst 0, 1) := dk_get daX16_input_ 50 (r := (100, .iconst 0, 1)) rfl
theorem dX16_input__101 : decode cX16_input_ 101 = .ok (.iconst 2, 1) := dk_get daX16_input_ 51 (r := (101, .iconst 2, 1)) rfl
theorem dX16_input__102 : decode cX16_input_ 102 = .ok (.invokevirtual 891, 3) := dk_get daX16_input_ 52 (r := (102, .invokevirtual 891, 3)) rfl
theorem dX16_input__105 : decode cX16_input_ 105 = .ok (.ifCond .eq 42, 3) := dk_get daX16_input_ 53 (r := (105, .ifCond .eq 42, 3)) rfl
theorem dX16_input__108 : decode cX16_input_ 108 = .ok (.aload_n 0, 1) := dk_get daX16_input_ 54 (r := (108, .aload_n 0, 1)) rfl
theorem dX16_input__109 : decode cX16_input_ 109 = .ok (.aload_n 0, 1) := dk_get daX16_input_ 55 (r := (109, .aload_n 0, 1)) rfl
theorem dX16_input__110 : decode cX16_input_ 110 = .ok (.getfield 732, 3) := dk_get daX16_input_ 56 (r := (110, .getfield 732, 3)) rfl
theorem dX16_input__113 : decode cX16_input_ 113 = .ok (.aload_n 0, 1) := dk_get daX16_input_ 57 (r := (113, .aload_n 0, 1)) rfl
theorem dX16_input__114 : decode cX16_input_ 114 = .ok (.getfield 865, 3) := dk_get daX16_input_ 58 (r := (114, .getfield 865, 3)) rfl
theorem dX16_input__117 : decode cX16_input_ 117 = .ok (.iconst 1, 1) := dk_get daX16_input_ 59 (r := (117, .iconst 1, 1)) rfl
theorem dX16_input__118 : decode cX16_input_ 118 = .ok (.isub, 1) := dk_get daX16_input_ 60 (r := (118, .isub, 1)) rfl
theorem dX16_input__119 : decode cX16_input_ 119 = .ok (.iaload, 1) := dk_get daX16_input_ 61 (r := (119, .iaload, 1)) rfl
theorem dX16_input__120 : decode cX16_input_ 120 = .ok (.bipush 6, 2) := dk_get daX16_input_ 62 (r := (120, .bipush 6, 2)) rfl
theorem dX16_input__122 : decode cX16_input_ 122 = .ok (.if_icmp .ge 17, 3) := dk_get daX16_input_ 63 (r := (122, .if_icmp .ge 17, 3)) rfl
theorem dX16_input__125 : decode cX16_input_ 125 = .ok (.aload_n 0, 1) := dk_get daX16_input_ 64 (r := (125, .aload_n 0, 1)) rfl
theorem dX16_input__126 : decode cX16_input_ 126 = .ok (.getfield 862, 3) := dk_get daX16_input_ 65 (r := (126, .getfield 862, 3)) rfl
theorem dX16_input__129 : decode cX16_input_ 129 = .ok (.sipush 600, 3) := dk_get daX16_input_ 66 (r := (129, .sipush 600, 3)) rfl
theorem dX16_input__132 : decode cX16_input_ 132 = .ok (.if_icmp .gt 7, 3) := dk_get daX16_input_ 67 (r := (132, .if_icmp .gt 7, 3)) rfl
theorem dX16_input__135 : decode cX16_input_ 135 = .ok (.iconst 1, 1) := dk_get daX16_input_ 68 (r := (135, .iconst 1, 1)) rfl
theorem dX16_input__136 : decode cX16_input_ 136 = .ok (.goto 4, 3) := dk_get daX16_input_ 69 (r := (136, .goto 4, 3)) rfl
theorem dX16_input__139 : decode cX16_input_ 139 = .ok (.iconst 0, 1) := dk_get daX16_input_ 70 (r := (139, .iconst 0, 1)) rfl
theorem dX16_input__140 : decode cX16_input_ 140 = .ok (.iconst 3, 1) := dk_get daX16_input_ 71 (r := (140, .iconst 3, 1)) rfl
theorem dX16_input__141 : decode cX16_input_ 141 = .ok (.invokevirtual 891, 3) := dk_get daX16_input_ 72 (r := (141, .invokevirtual 891, 3)) rfl
theorem dX16_input__144 : decode cX16_input_ 144 = .ok (.ifCond .ne 5, 3) := dk_get daX16_input_ 73 (r := (144, .ifCond .ne 5, 3)) rfl
theorem dX16_input__147 : decode cX16_input_ 147 = .ok (.iconst 0, 1) := dk_get daX16_input_ 74 (r := (147, .iconst 0, 1)) rfl
theorem dX16_input__148 : decode cX16_input_ 148 = .ok (.ireturn, 1) := dk_get daX16_input_ 75 (r := (148, .ireturn, 1)) rfl
theorem dX16_input__149 : decode cX16_input_ 149 = .ok (.iload_n 1, 1) := dk_get daX16_input_ 76 (r := (149, .iload_n 1, 1)) rfl
theorem dX16_input__150 : decode cX16_input_ 150 = .ok (.bipush (-2), 2) := dk_get daX16_input_ 77 (r := (150, .bipush (-2), 2)) rfl
theorem dX16_input__152 : decode cX16_input_ 152 = .ok (.if_icmp .ne 8, 3) := dk_get daX16_input_ 78 (r := (152, .if_icmp .ne 8, 3)) rfl
theorem dX16_input__155 : decode cX16_input_ 155 = .ok (.aload_n 0, 1) := dk_get daX16_input_ 79 (r := (155, .aload_n 0, 1)) rfl
theorem dX16_input__156 : decode cX16_input_ 156 = .ok (.iload_n 2, 1) := dk_get daX16_input_ 80 (r := (156, .iload_n 2, 1)) rfl
theorem dX16_input__157 : decode cX16_input_ 157 = .ok (.invokevirtual 909, 3) := dk_get daX16_input_ 81 (r := (157, .invokevirtual 909, 3)) rfl
theorem dX16_input__160 : decode cX16_input_ 160 = .ok (.bipush 6, 2) := dk_get daX16_input_ 82 (r := (160, .bipush 6, 2)) rfl
theorem dX16_input__162 : decode cX16_input_ 162 = .ok (.aload_n 0, 1) := dk_get daX16_input_ 83 (r := (162, .aload_n 0, 1)) rfl
theorem dX16_input__163 : decode cX16_input_ 163 = .ok (.getfield 865, 3) := dk_get daX16_input_ 84 (r := (163, .getfield 865, 3)) rfl
theorem dX16_input__166 : decode cX16_input_ 166 = .ok (.iconst 1, 1) := dk_get daX16_input_ 85 (r := (166, .iconst 1, 1)) rfl
theorem dX16_input__167 : decode cX16_input_ 167 = .ok (.isub, 1) := dk_get daX16_input_ 86 (r := (167, .isub, 1)) rfl
theorem dX16_input__168 : decode cX16_input_ 168 = .ok (.imul, 1) := dk_get daX16_input_ 87 (r := (168, .imul, 1)) rfl
theorem dX16_input__169 : decode cX16_input_ 169 = .ok (.aload_n 0, 1) := dk_get daX16_input_ 88 (r := (169, .aload_n 0, 1)) rfl
theorem dX16_input__170 : decode cX16_input_ 170 = .ok (.getfield 732, 3) := dk_get daX16_input_ 89 (r := (170, .getfield 732, 3)) rfl
theorem dX16_input__173 : decode cX16_input_ 173 = .ok (.aload_n 0, 1) := dk_get daX16_input_ 90 (r := (173, .aload_n 0, 1)) rfl
theorem dX16_input__174 : decode cX16_input_ 174 = .ok (.getfield 865, 3) := dk_get daX16_input_ 91 (r := (174, .getfield 865, 3)) rfl
theorem dX16_input__177 : decode cX16_input_ 177 = .ok (.iconst 1, 1) := dk_get daX16_input_ 92 (r := (177, .iconst 1, 1)) rfl
theorem dX16_input__178 : decode cX16_input_ 178 = .ok (.isub, 1) := dk_get daX16_input_ 93 (r := (178, .isub, 1)) rfl
theorem dX16_input__179 : decode cX16_input_ 179 = .ok (.iaload, 1) := dk_get daX16_input_ 94 (r := (179, .iaload, 1)) rfl
theorem dX16_input__180 : decode cX16_input_ 180 = .ok (.iadd, 1) := dk_get daX16_input_ 95 (r := (180, .iadd, 1)) rfl
theorem dX16_input__181 : decode cX16_input_ 181 = .ok (.istore 7, 2) := dk_get daX16_input_ 96 (r := (181, .istore 7, 2)) rfl
theorem dX16_input__183 : decode cX16_input_ 183 = .ok (.aload_n 0, 1) := dk_get daX16_input_ 97 (r := (183, .aload_n 0, 1)) rfl
theorem dX16_input__184 : decode cX16_input_ 184 = .ok (.aload_n 0, 1) := dk_get daX16_input_ 98 (r := (184, .aload_n 0, 1)) rfl
theorem dX16_input__185 : decode cX16_input_ 185 = .ok (.getfield 865, 3) := dk_get daX16_input_ 99 (r := (185, .getfield 865, 3)) rfl
theorem dX16_input__188 : decode cX16_input_ 188 = .ok (.iconst 1, 1) := dk_get daX16_input_ 100 (r := (188, .iconst 1, 1)) rfl
theorem dX16_input__189 : decode cX16_input_ 189 = .ok (.isub, 1) := dk_get daX16_input_ 101 (r := (189, .isub, 1)) rfl
theorem dX16_input__190 : decode cX16_input_ 190 = .ok (.lload 4, 2) := dk_get daX16_input_ 102 (r := (190, .lload 4, 2)) rfl
theorem dX16_input__192 : decode cX16_input_ 192 = .ok (.invokevirtual 868, 3) := dk_get daX16_input_ 103 (r := (192, .invokevirtual 868, 3)) rfl
theorem dX16_input__195 : decode cX16_input_ 195 = .ok (.iload_n 1, 1) := dk_get daX16_input_ 104 (r := (195, .iload_n 1, 1)) rfl
theorem dX16_input__196 : decode cX16_input_ 196 = .ok (.iconst (-1), 1) := dk_get daX16_input_ 105 (r := (196, .iconst (-1), 1)) rfl
theorem dX16_input__197 : decode cX16_input_ 197 = .ok (.if_icmp .eq 108, 3) := dk_get daX16_input_ 106 (r := (197, .if_icmp .eq 108, 3)) rfl
theorem dX16_input__200 : decode cX16_input_ 200 = .ok (.iload_n 1, 1) := dk_get daX16_input_ 107 (r := (200, .iload_n 1, 1)) rfl
theorem dX16_input__201 : decode cX16_input_ 201 = .ok (.bipush (-2), 2) := dk_get daX16_input_ 108 (r := (201, .bipush (-2), 2)) rfl
theorem dX16_input__203 : decode cX16_input_ 203 = .ok (.if_icmp .ne 10, 3) := dk_get daX16_input_ 109 (r := (203, .if_icmp .ne 10, 3)) rfl
theorem dX16_input__206 : decode cX16_input_ 206 = .ok (.aload_n 0, 1) := dk_get daX16_input_ 110 (r := (206, .aload_n 0, 1)) rfl
theorem dX16_input__207 : decode cX16_input_ 207 = .ok (.getfield 770, 3) := dk_get daX16_input_ 111 (r := (207, .getfield 770, 3)) rfl
theorem dX16_input__210 : decode cX16_input_ 210 = .ok (.goto 15, 3) := dk_get daX16_input_ 112 (r := (210, .goto 15, 3)) rfl
theorem dX16_input__213 : decode cX16_input_ 213 = .ok (.aload_n 0, 1) := dk_get daX16_input_ 113 (r := (213, .aload_n 0, 1)) rfl
theorem dX16_input__214 : decode cX16_input_ 214 = .ok (.getfield 347, 3) := dk_get daX16_input_ 114 (r := (214, .getfield 347, 3)) rfl
theorem dX16_input__217 : decode cX16_input_ 217 = .ok (.iload_n 1, 1) := dk_get daX16_input_ 115 (r := (217, .iload_n 1, 1)) rfl
theorem dX16_input__218 : decode cX16_input_ 218 = .ok (.aaload, 1) := dk_get daX16_input_ 116 (r := (218, .aaload, 1)) rfl
theorem dX16_input__219 : decode cX16_input_ 219 = .ok (.getfield 457, 3) := dk_get daX16_input_ 117 (r := (219, .getfield 457, 3)) rfl
theorem dX16_input__222 : decode cX16_input_ 222 = .ok (.getfield 316, 3) := dk_get daX16_input_ 118 (r := (222, .getfield 316, 3)) rfl
theorem dX16_input__225 : decode cX16_input_ 225 = .ok (.astore 8, 2) := dk_get daX16_input_ 119 (r := (225, .astore 8, 2)) rfl
theorem dX16_input__227 : decode cX16_input_ 227 = .ok (.iconst 0, 1) := dk_get daX16_input_ 120 (r := (227, .iconst 0, 1)) rfl
theorem dX16_input__228 : decode cX16_input_ 228 = .ok (.istore 9, 2) := dk_get daX16_input_ 121 (r := (228, .istore 9, 2)) rfl
theorem dX16_input__230 : decode cX16_input_ 230 = .ok (.iload 9, 2) := dk_get daX16_input_ 122 (r := (230, .iload 9, 2)) rfl
theorem dX16_input__232 : decode cX16_input_ 232 = .ok (.bipush 32, 2) := dk_get daX16_input_ 123 (r := (232, .bipush 32, 2)) rfl
theorem dX16_input__234 : decode cX16_input_ 234 = .ok (.if_icmp .ge 32, 3) := dk_get daX16_input_ 124 (r := (234, .if_icmp .ge 32, 3)) rfl
theorem dX16_input__237 : decode cX16_input_ 237 = .ok (.aload_n 0, 1) := dk_get daX16_input_ 125 (r := (237, .aload_n 0, 1)) rfl
theorem dX16_input__238 : decode cX16_input_ 238 = .ok (.getfield 738, 3) := dk_get daX16_input_ 126 (r := (238, .getfield 738, 3)) rfl
theorem dX16_input__241 : decode cX16_input_ 241 = .ok (.bipush 36, 2) := dk_get daX16_input_ 127 (r := (241, .bipush 36, 2)) rfl
theorem dX16_input__243 : decode cX16_input_ 243 = .ok (.iload 7, 2) := dk_get daX16_input_ 128 (r := (243, .iload 7, 2)) rfl
theorem dX16_input__245 : decode cX16_input_ 245 = .ok (.imul, 1) := dk_get daX16_input_ 129 (r := (245, .imul, 1)) rfl
theorem dX16_input__246 : decode cX16_input_ 246 = .ok (.iload 9, 2) := dk_get daX16_input_ 130 (r := (246, .iload 9, 2)) rfl
theorem dX16_input__248 : decode cX16_input_ 248 = .ok (.iadd, 1) := dk_get daX16_input_ 131 (r := (248, .iadd, 1)) rfl
theorem dX16_input__249 : decode cX16_input_ 249 = .ok (.aload 8, 2) := dk_get daX16_input_ 132 (r := (249, .aload 8, 2)) rfl
theorem dX16_input__251 : decode cX16_input_ 251 = .ok (.bipush 32, 2) := dk_get daX16_input_ 133 (r := (251, .bipush 32, 2)) rfl
theorem dX16_input__253 : decode cX16_input_ 253 = .ok (.iload_n 2, 1) := dk_get daX16_input_ 134 (r := (253, .iload_n 2, 1)) rfl
theorem dX16_input__254 : decode cX16_input_ 254 = .ok (.imul, 1) := dk_get daX16_input_ 135 (r := (254, .imul, 1)) rfl
theorem dX16_input__255 : decode cX16_input_ 255 = .ok (.iload 9, 2) := dk_get daX16_input_ 136 (r := (255, .iload 9, 2)) rfl
theorem dX16_input__257 : decode cX16_input_ 257 = .ok (.iadd, 1) := dk_get daX16_input_ 137 (r := (257, .iadd, 1)) rfl
theorem dX16_input__258 : decode cX16_input_ 258 = .ok (.baload, 1) := dk_get daX16_input_ 138 (r := (258, .baload, 1)) rfl
theorem dX16_input__259 : decode cX16_input_ 259 = .ok (.bastore, 1) := dk_get daX16_input_ 139 (r := (259, .bastore, 1)) rfl
theorem dX16_input__260 : decode cX16_input_ 260 = .ok (.iinc 9 1, 3) := dk_get daX16_input_ 140 (r := (260, .iinc 9 1, 3)) rfl
theorem dX16_input__263 : decode cX16_input_ 263 = .ok (.goto (-33), 3) := dk_get daX16_input_ 141 (r := (263, .goto (-33), 3)) rfl
theorem dX16_input__266 : decode cX16_input_ 266 = .ok (.iconst 0, 1) := dk_get daX16_input_ 142 (r := (266, .iconst 0, 1)) rfl
theorem dX16_input__267 : decode cX16_input_ 267 = .ok (.istore 9, 2) := dk_get daX16_input_ 143 (r := (267, .istore 9, 2)) rfl
theorem dX16_input__269 : decode cX16_input_ 269 = .ok (.iload 9, 2) := dk_get daX16_input_ 144 (r := (269, .iload 9, 2)) rfl
theorem dX16_input__271 : decode cX16_input_ 271 = .ok (.iconst 4, 1) := dk_get daX16_input_ 145 (r := (271, .iconst 4, 1)) rfl
theorem dX16_input__272 : decode cX16_input_ 272 = .ok (.if_icmp .ge 33, 3) := dk_get daX16_input_ 146 (r := (272, .if_icmp .ge 33, 3)) rfl
theorem dX16_input__275 : decode cX16_input_ 275 = .ok (.aload_n 0, 1) := dk_get daX16_input_ 147 (r := (275, .aload_n 0, 1)) rfl
theorem dX16_input__276 : decode cX16_input_ 276 = .ok (.getfield 738, 3) := dk_get daX16_input_ 148 (r := (276, .getfield 738, 3)) rfl
theorem dX16_input__279 : decode cX16_input_ 279 = .ok (.bipush 36, 2) := dk_get daX16_input_ 149 (r := (279, .bipush 36, 2)) rfl
theorem dX16_input__281 : decode cX16_input_ 281 = .ok (.iload 7, 2) := dk_get daX16_input_ 150 (r := (281, .iload 7, 2)) rfl
theorem dX16_input__283 : decode cX16_input_ 283 = .ok (.imul, 1) := dk_get daX16_input_ 151 (r := (283, .imul, 1)) rfl
theorem dX16_input__284 : decode cX16_input_ 284 = .ok (.bipush 32, 2) := dk_get daX16_input_ 152 (r := (284, .bipush 32, 2)) rfl
theorem dX16_input__286 : decode cX16_input_ 286 = .ok (.iadd, 1) := dk_get daX16_input_ 153 (r := (286, .iadd, 1)) rfl
theorem dX16_input__287 : decode cX16_input_ 287 = .ok (.iload 9, 2) := dk_get daX16_input_ 154 (r := (287, .iload 9, 2)) rfl
theorem dX16_input__289 : decode cX16_input_ 289 = .ok (.iadd, 1) := dk_get daX16_input_ 155 (r := (289, .iadd, 1)) rfl
theorem dX16_input__290 : decode cX16_input_ 290 = .ok (.iload_n 3, 1) := dk_get daX16_input_ 156 (r := (290, .iload_n 3, 1)) rfl
theorem dX16_input__291 : decode cX16_input_ 291 = .ok (.bipush 8, 2) := dk_get daX16_input_ 157 (r := (291, .bipush 8, 2)) rfl
theorem dX16_input__293 : decode cX16_input_ 293 = .ok (.iload 9, 2) := dk_get daX16_input_ 158 (r := (293, .iload 9, 2)) rfl
theorem dX16_input__295 : decode cX16_input_ 295 = .ok (.imul, 1) := dk_get daX16_input_ 159 (r := (295, .imul, 1)) rfl
theorem dX16_input__296 : decode cX16_input_ 296 = .ok (.iushr, 1) := dk_get daX16_input_ 160 (r := (296, .iushr, 1)) rfl
theorem dX16_input__297 : decode cX16_input_ 297 = .ok (.i2b, 1) := dk_get daX16_input_ 161 (r := (297, .i2b, 1)) rfl
theorem dX16_input__298 : decode cX16_input_ 298 = .ok (.bastore, 1) := dk_get daX16_input_ 162 (r := (298, .bastore, 1)) rfl
theorem dX16_input__299 : decode cX16_input_ 299 = .ok (.iinc 9 1, 3) := dk_get daX16_input_ 163 (r := (299, .iinc 9 1, 3)) rfl
theorem dX16_input__302 : decode cX16_input_ 302 = .ok (.goto (-33), 3) := dk_get daX16_input_ 164 (r := (302, .goto (-33), 3)) rfl
theorem dX16_input__305 : decode cX16_input_ 305 = .ok (.aload_n 0, 1) := dk_get daX16_input_ 165 (r := (305, .aload_n 0, 1)) rfl
theorem dX16_input__306 : decode cX16_input_ 306 = .ok (.getfield 732, 3) := dk_get daX16_input_ 166 (r := (306, .getfield 732, 3)) rfl
theorem dX16_input__309 : decode cX16_input_ 309 = .ok (.aload_n 0, 1) := dk_get daX16_input_ 167 (r := (309, .aload_n 0, 1)) rfl
theorem dX16_input__310 : decode cX16_input_ 310 = .ok (.getfield 865, 3) := dk_get daX16_input_ 168 (r := (310, .getfield 865, 3)) rfl
theorem dX16_input__313 : decode cX16_input_ 313 = .ok (.iconst 1, 1) := dk_get daX16_input_ 169 (r := (313, .iconst 1, 1)) rfl
theorem dX16_input__314 : decode cX16_input_ 314 = .ok (.isub, 1) := dk_get daX16_input_ 170 (r := (314, .isub, 1)) rfl
theorem dX16_input__315 : decode cX16_input_ 315 = .ok (.iaload, 1) := dk_get daX16_input_ 171 (r := (315, .iaload, 1)) rfl
theorem dX16_input__316 : decode cX16_input_ 316 = .ok (.ireturn, 1) := dk_get daX16_input_ 172 (r := (316, .ireturn, 1)) rfl
abbrev mX16_output_ : ks_M := (RX16, cX16_output_, 3, (some .int), "output")
def drX16_output_ : List (Nat × Instr × Nat) := [(0, .aload_n 0, 1), (1, .aload_n 0, 1), (2, .getfield 865, 3), (5, .ifCond .le 7, 3), (8, .iconst 1, 1), (9, .goto 4, 3), (12, .iconst 0, 1), (13, .iconst 1, 1), (14, .invokevirtual 891, 3), (17, .ifCond .eq 42, 3), (20, .aload_n 0, 1), (21, .aload_n 0, 1), (22, .getfield 752, 3), (25, .aload_n 0, 1), (26, .getfield 865, 3), (29, .iconst 1, 1), (30, .isub, 1), (31, .iaload, 1), (32, .bipush 6, 2), (34, .if_icmp .ge 17, 3), (37, .aload_n 0, 1), (38, .getfield 862, 3), (41, .sipush 600, 3), (44, .if_icmp .gt 7, 3), (47, .iconst 1, 1), (48, .goto 4, 3), (51, .iconst 0, 1), (52, .iconst 2, 1), (53, .invokevirtual 891, 3), (56, .ifCond .ne 5, 3), (59, .iconst 0, 1), (60, .ireturn, 1), (61, .aload_n 0, 1), (62, .lload_n 1, 1), (63, .invokevirtual 872, 3), (66, .aload_n 0, 1), (67, .getfield 752, 3), (70, .aload_n 0, 1), (71, .getfield 865, 3), (74, .iconst 1, 1), (75, .isub, 1), (76, .iaload, 1), (77, .ireturn, 1)]
set_option maxRecDepth 100000 in
theorem daX16_output_ : dk_all cX16_output_ drX16_output_ = true := by decide +kernel
theorem dX16_output__0 : decode cX16_output_ 0 = .ok (.aload_n 0, 1) := dk_get daX16_output_ 0 (r := (0, .aload_n 0, 1)) rfl
theorem dX16_output__1 : decode cX16_output_ 1 = .ok (.aload_n 0, 1) := dk_get daX16_output_ 1 (r := (1, .aload_n 0, 1)) rfl
theorem dX16_output__2 : decode cX16_output_ 2 = .ok (.getfield 865, 3) := dk_get daX16_output_ 2 (r := (2, .getfield 865, 3)) rfl
theorem dX16_output__5 : decode cX16_output_ 5 = .ok (.ifCond .le 7, 3) := dk_get daX16_output_ 3 (r := (5, .ifCond .le 7, 3)) rfl
theorem dX16_output__8 : decode cX16_output_ 8 = .ok (.iconst 1, 1) := dk_get daX16_output_ 4 (r := (8, .iconst 1, 1)) rfl
theorem dX16_output__9 : decode cX16_output_ 9 = .ok (.goto 4, 3) := dk_get daX16_output_ 5 (r := (9, .goto 4, 3)) rfl
theorem dX16_output__12 : decode cX16_output_ 12 = .ok (.iconst 0, 1) := dk_get daX16_output_ 6 (r := (12, .iconst 0, 1)) rfl
theorem dX16_output__13 : decode cX16_output_ 13 = .ok (.iconst 1, 1) := dk_get daX16_output_ 7 (r := (13, .iconst 1, 1)) rfl
theorem dX16_output__14 : decode cX16_output_ 14 = .ok (.invokevirtual 891, 3) := dk_get daX16_output_ 8 (r := (14, .invokevirtual 891, 3)) rfl
theorem dX16_output__17 : decode cX16_output_ 17 = .ok (.ifCond .eq 42, 3) := dk_get daX16_output_ 9 (r := (17, .ifCond .eq 42, 3)) rfl
theorem dX16_output__20 : decode cX16_output_ 20 = .ok (.aload_n 0, 1) := dk_get daX16_output_ 10 (r := (20, .aload_n 0, 1)) rfl
theorem dX16_output__21 : decode cX16_output_ 21 = .ok (.aload_n 0, 1) := dk_get daX16_output_ 11 (r := (21, .aload_n 0, 1)) rfl
theorem dX16_output__22 : decode cX16_output_ 22 = .ok (.getfield 752, 3) := dk_get daX16_output_ 12 (r := (22, .getfield 752, 3)) rfl
theorem dX16_output__25 : decode cX16_output_ 25 = .ok (.aload_n 0, 1) := dk_get daX16_output_ 13 (r := (25, .aload_n 0, 1)) rfl
theorem dX16_output__26 : decode cX16_output_ 26 = .ok (.getfield 865, 3) := dk_get daX16_output_ 14 (r := (26, .getfield 865, 3)) rfl
theorem dX16_output__29 : decode cX16_output_ 29 = .ok (.iconst 1, 1) := dk_get daX16_output_ 15 (r := (29, .iconst 1, 1)) rfl
theorem dX16_output__30 : decode cX16_output_ 30 = .ok (.isub, 1) := dk_get daX16_output_ 16 (r := (30, .isub, 1)) rfl
theorem dX16_output__31 : decode cX16_output_ 31 = .ok (.iaload, 1) := dk_get daX16_output_ 17 (r := (31, .iaload, 1)) rfl
theorem dX16_output__32 : decode cX16_output_ 32 = .ok (.bipush 6, 2) := dk_get daX16_output_ 18 (r := (32, .bipush 6, 2)) rfl
theorem dX16_output__34 : decode cX16_output_ 34 = .ok (.if_icmp .ge 17, 3) := dk_get daX16_output_ 19 (r := (34, .if_icmp .ge 17, 3)) rfl
theorem dX16_output__37 : decode cX16_output_ 37 = .ok (.aload_n 0, 1) := dk_get daX16_output_ 20 (r := (37, .aload_n 0, 1)) rfl
theorem dX16_output__38 : decode cX16_output_ 38 = .ok (.getfield 862, 3) := dk_get daX16_output_ 21 (r := (38, .getfield 862, 3)) rfl
theorem dX16_output__41 : decode cX16_output_ 41 = .ok (.sipush 600, 3) := dk_get daX16_output_ 22 (r := (41, .sipush 600, 3)) rfl
theorem dX16_output__44 : decode cX16_output_ 44 = .ok (.if_icmp .gt 7, 3) := dk_get daX16_output_ 23 (r := (44, .if_icmp .gt 7, 3)) rfl
theorem dX16_output__47 : decode cX16_output_ 47 = .ok (.iconst 1, 1) := dk_get daX16_output_ 24 (r := (47, .iconst 1, 1)) rfl
theorem dX16_output__48 : decode cX16_output_ 48 = .ok (.goto 4, 3) := dk_get daX16_output_ 25 (r := (48, .goto 4, 3)) rfl
theorem dX16_output__51 : decode cX16_output_ 51 = .ok (.iconst 0, 1) := dk_get daX16_output_ 26 (r := (51, .iconst 0, 1)) rfl
theorem dX16_output__52 : decode cX16_output_ 52 = .ok (.iconst 2, 1) := dk_get daX16_output_ 27 (r := (52, .iconst 2, 1)) rfl
theorem dX16_output__53 : decode cX16_output_ 53 = .ok (.invokevirtual 891, 3) := dk_get daX16_output_ 28 (r := (53, .invokevirtual 891, 3)) rfl
theorem dX16_output__56 : decode cX16_output_ 56 = .ok (.ifCond .ne 5, 3) := dk_get daX16_output_ 29 (r := (56, .ifCond .ne 5, 3)) rfl
theorem dX16_output__59 : decode cX16_output_ 59 = .ok (.iconst 0, 1) := dk_get daX16_output_ 30 (r := (59, .iconst 0, 1)) rfl
theorem dX16_output__60 : decode cX16_output_ 60 = .ok (.ireturn, 1) := dk_get daX16_output_ 31 (r := (60, .ireturn, 1)) rfl
theorem dX16_output__61 : decode cX16_output_ 61 = .ok (.aload_n 0, 1) := dk_get daX16_output_ 32 (r := (61, .aload_n 0, 1)) rfl
theorem dX16_output__62 : decode cX16_output_ 62 = .ok (.lload_n 1, 1) := dk_get daX16_output_ 33 (r := (62, .lload_n 1, 1)) rfl
theorem dX16_output__63 : decode cX16_output_ 63 = .ok (.invokevirtual 872, 3) := dk_get daX16_output_ 34 (r := (63, .invokevirtual 872, 3)) rfl
theorem dX16_output__66 : decode cX16_output_ 66 = .ok (.aload_n 0, 1) := dk_get daX16_output_ 35 (r := (66, .aload_n 0, 1)) rfl
theorem dX16_output__67 : decode cX16_output_ 67 = .ok (.getfield 752, 3) := dk_get daX16_output_ 36 (r := (67, .getfield 752, 3)) rfl
theorem dX16_output__70 : decode cX16_output_ 70 = .ok (.aload_n 0, 1) := dk_get daX16_output_ 37 (r := (70, .aload_n 0, 1)) rfl
theorem dX16_output__71 : decode cX16_output_ 71 = .ok (.getfield 865, 3) := dk_get daX16_output_ 38 (r := (71, .getfield 865, 3)) rfl
theorem dX16_output__74 : decode cX16_output_ 74 = .ok (.iconst 1, 1) := dk_get daX16_output_ 39 (r := (74, .iconst 1, 1)) rfl
theorem dX16_output__75 : decode cX16_output_ 75 = .ok (.isub, 1) := dk_get daX16_output_ 40 (r := (75, .isub, 1)) rfl
theorem dX16_output__76 : decode cX16_output_ 76 = .ok (.iaload, 1) := dk_get daX16_output_ 41 (r := (76, .iaload, 1)) rfl
theorem dX16_output__77 : decode cX16_output_ 77 = .ok (.ireturn, 1) := dk_get daX16_output_ 42 (r := (77, .ireturn, 1)) rfl
abbrev mX16_hasInput : ks_M := (RX16, cX16_hasInput, 2, (some .boolean), "hasInput")
def drX16_hasInput : List (Nat × Instr × Nat) := [(0, .iload_n 1, 1), (1, .ifCond .lt 22, 3), (4, .iload_n 1, 1), (5, .aload_n 0, 1), (6, .getfield 732, 3), (9, .aload_n 0, 1), (10, .getfield 865, 3), (13, .iconst 1, 1), (14, .isub, 1), (15, .iaload, 1), (16, .if_icmp .ge 7, 3), (19, .iconst 1, 1), (20, .goto 4, 3), (23, .iconst 0, 1), (24, .ireturn, 1)]
set_option maxRecDepth 100000 in
theorem daX16_hasInput : dk_all cX16_hasInput drX16_hasInput = true := by decide +kernel
theorem dX16_hasInput_0 : decode cX16_hasInput 0 = .ok (.iload_n 1, 1) := dk_get daX16_hasInput 0 (r := (0, .iload_n 1, 1)) rfl
theorem dX16_hasInput_1 : decode cX16_hasInput 1 = .ok (.ifCond .lt 22, 3) := dk_get daX16_hasInput 1 (r := (1, .ifCond .lt 22, 3)) rfl
theorem dX16_hasInput_4 : decode cX16_hasInput 4 = .ok (.iload_n 1, 1) := dk_get daX16_hasInput 2 (r := (4, .iload_n 1, 1)) rfl
theorem dX16_hasInput_5 : decode cX16_hasInput 5 = .ok (.aload_n 0, 1) := dk_get daX16_hasInput 3 (r := (5, .aload_n 0, 1)) rfl
theorem dX16_hasInput_6 : decode cX16_hasInput 6 = .ok (.getfield 732, 3) := dk_get daX16_hasInput 4 (r := (6, .getfield 732, 3)) rfl
theorem dX16_hasInput_9 : decode cX16_hasInput 9 = .ok (.aload_n 0, 1) := dk_get daX16_hasInput 5 (r := (9, .aload_n 0, 1)) rfl
theorem dX16_hasInput_10 : decode cX16_hasInput 10 = .ok (.getfield 865, 3) := dk_get daX16_hasInput 6 (r := (10, .getfield 865, 3)) rfl
theorem dX16_hasInput_13 : decode cX16_hasInput 13 = .ok (.iconst 1, 1) := dk_get daX16_hasInput 7 (r := (13, .iconst 1, 1)) rfl
theorem dX16_hasInput_14 : decode cX16_hasInput 14 = .ok (.isub, 1) := dk_get daX16_hasInput 8 (r := (14, .isub, 1)) rfl
theorem dX16_hasInput_15 : decode cX16_hasInput 15 = .ok (.iaload, 1) := dk_get daX16_hasInput 9 (r := (15, .iaload, 1)) rfl
theorem dX16_hasInput_16 : decode cX16_hasInput 16 = .ok (.if_icmp .ge 7, 3) := dk_get daX16_hasInput 10 (r := (16, .if_icmp .ge 7, 3)) rfl
theorem dX16_hasInput_19 : decode cX16_hasInput 19 = .ok (.iconst 1, 1) := dk_get daX16_hasInput 11 (r := (19, .iconst 1, 1)) rfl
theorem dX16_hasInput_20 : decode cX16_hasInput 20 = .ok (.goto 4, 3) := dk_get daX16_hasInput 12 (r := (20, .goto 4, 3)) rfl
theorem dX16_hasInput_23 : decode cX16_hasInput 23 = .ok (.iconst 0, 1) := dk_get daX16_hasInput 13 (r := (23, .iconst 0, 1)) rfl
theorem dX16_hasInput_24 : decode cX16_hasInput 24 = .ok (.ireturn, 1) := dk_get daX16_hasInput 14 (r := (24, .ireturn, 1)) rfl
abbrev mX16_pushTo : ks_M := (RX16, cX16_pushTo, 7, none, "pushTo")
def drX16_pushTo : List (Nat × Instr × Nat) := [(0, .aload_n 0, 1), (1, .getfield 746, 3), (4, .iload_n 1, 1), (5, .aaload, 1), (6, .astore 4, 2), (8, .aload_n 0, 1), (9, .getfield 743, 3), (12, .iload_n 1, 1), (13, .iaload, 1), (14, .istore 5, 2), (16, .iload_n 3, 1), (17, .bipush 75, 2), (19, .if_icmp .le 26, 3), (22, .aload 4, 2), (24, .iload 5, 2), (26, .iload_n 3, 1), (27, .sipush 256, 3), (30, .if_icmp .ge 8, 3), (33, .bipush 76, 2), (35, .goto 5, 3), (38, .bipush 77, 2), (40, .i2b, 1), (41, .bastore, 1), (42, .iinc 5 1, 3), (45, .aload 4, 2), (47, .iload 5, 2), (49, .iload_n 3, 1), (50, .i2b, 1), (51, .bastore, 1), (52, .iinc 5 1, 3), (55, .iload_n 3, 1), (56, .sipush 255, 3), (59, .if_icmp .le 16, 3), (62, .aload 4, 2), (64, .iload 5, 2), (66, .iload_n 3, 1), (67, .bipush 8, 2), (69, .ishr, 1), (70, .i2b, 1), (71, .bastore, 1), (72, .iinc 5 1, 3), (75, .iconst 0, 1), (76, .istore 6, 2), (78, .iload 6, 2), (80, .iload_n 3, 1), (81, .if_icmp .ge 21, 3), (84, .aload 4, 2), (86, .iload 5, 2), (88, .iload 6, 2), (90, .iadd, 1), (91, .aload_n 2, 1), (92, .iload 6, 2), (94, .baload, 1), (95, .bastore, 1), (96, .iinc 6 1, 3), (99, .goto (-21), 3), (102, .aload_n 0, 1), (103, .getfield 743, 3), (106, .iload_n 1, 1), (107, .iload 5, 2), (109, .iload_n 3, 1), (110, .iadd, 1), (111, .iastore, 1), (112, .return_, 1)]
set_option maxRecDepth 100000 in
theorem daX16_pushTo : dk_all cX16_pushTo drX16_pushTo = true := by decide +kernel
theorem dX16_pushTo_0 : decode cX16_pushTo 0 = .ok (.aload_n 0, 1) := dk_get daX16_pushTo 0 (r := (0, .aload_n 0, 1)) rfl
theorem dX16_pushTo_1 : decode cX16_pushTo 1 = .ok (.getfield 746, 3) := dk_get daX16_pushTo 1 (r := (1, .getfield 746, 3)) rfl
theorem dX16_pushTo_4 : decode cX16_pushTo 4 = .ok (.iload_n 1, 1) := dk_get daX16_pushTo 2 (r := (4, .iload_n 1, 1)) rfl
theorem dX16_pushTo_5 : decode cX16_pushTo 5 = .ok (.aaload, 1) := dk_get daX16_pushTo 3 (r := (5, .aaload, 1)) rfl
theorem dX16_pushTo_6 : decode cX16_pushTo 6 = .ok (.astore 4, 2) := dk_get daX16_pushTo 4 (r := (6, .astore 4, 2)) rfl
theorem dX16_pushTo_8 : decode cX16_pushTo 8 = .ok (.aload_n 0, 1) := dk_get daX16_pushTo 5 (r := (8, .aload_n 0, 1)) rfl
theorem dX16_pushTo_9 : decode cX16_pushTo 9 = .ok (.getfield 743, 3) := dk_get daX16_pushTo 6 (r := (9, .getfield 743, 3)) rfl
theorem dX16_pushTo_12 : decode cX16_pushTo 12 = .ok (.iload_n 1, 1) := dk_get daX16_pushTo 7 (r := (12, .iload_n 1, 1)) rfl
theorem dX16_pushTo_13 : decode cX16_pushTo 13 = .ok (.iaload, 1) := dk_get daX16_pushTo 8 (r := (13, .iaload, 1)) rfl
theorem dX16_pushTo_14 : decode cX16_pushTo 14 = .ok (.istore 5, 2) := dk_get daX16_pushTo 9 (r := (14, .istore 5, 2)) rfl
theorem dX16_pushTo_16 : decode cX16_pushTo 16 = .ok (.iload_n 3, 1) := dk_get daX16_pushTo 10 (r := (16, .iload_n 3, 1)) rfl
theorem dX16_pushTo_17 : decode cX16_pushTo 17 = .ok (.bipush 75, 2) := dk_get daX16_pushTo 11 (r := (17, .bipush 75, 2)) rfl
theorem dX16_pushTo_19 : decode cX16_pushTo 19 = .ok (.if_icmp .le 26, 3) := dk_get daX16_pushTo 12 (r := (19, .if_icmp .le 26, 3)) rfl
theorem dX16_pushTo_22 : decode cX16_pushTo 22 = .ok (.aload 4, 2) := dk_get daX16_pushTo 13 (r := (22, .aload 4, 2)) rfl
theorem dX16_pushTo_24 : decode cX16_pushTo 24 = .ok (.iload 5, 2) := dk_get daX16_pushTo 14 (r := (24, .iload 5, 2)) rfl
theorem dX16_pushTo_26 : decode cX16_pushTo 26 = .ok (.iload_n 3, 1) := dk_get daX16_pushTo 15 (r := (26, .iload_n 3, 1)) rfl
theorem dX16_pushTo_27 : decode cX16_pushTo 27 = .ok (.sipush 256, 3) := dk_get daX16_pushTo 16 (r := (27, .sipush 256, 3)) rfl
theorem dX16_pushTo_30 : decode cX16_pushTo 30 = .ok (.if_icmp .ge 8, 3) := dk_get daX16_pushTo 17 (r := (30, .if_icmp .ge 8, 3)) rfl
theorem dX16_pushTo_33 : decode cX16_pushTo 33 = .ok (.bipush 76, 2) := dk_get daX16_pushTo 18 (r := (33, .bipush 76, 2)) rfl
theorem dX16_pushTo_35 : decode cX16_pushTo 35 = .ok (.goto 5, 3) := dk_get daX16_pushTo 19 (r := (35, .goto 5, 3)) rfl
theorem dX16_pushTo_38 : decode cX16_pushTo 38 = .ok (.bipush 77, 2) := dk_get daX16_pushTo 20 (r := (38, .bipush 77, 2)) rfl
theorem dX16_pushTo_40 : decode cX16_pushTo 40 = .ok (.i2b, 1) := dk_get daX16_pushTo 21 (r := (40, .i2b, 1)) rfl
theorem dX16_pushTo_41 : decode cX16_pushTo 41 = .ok (.bastore, 1) := dk_get daX16_pushTo 22 (r := (41, .bastore, 1)) rfl
theorem dX16_pushTo_42 : decode cX16_pushTo 42 = .ok (.iinc 5 1, 3) := dk_get daX16_pushTo 23 (r := (42, .iinc 5 1, 3)) rfl
theorem dX16_pushTo_45 : decode cX16_pushTo 45 = .ok (.aload 4, 2) := dk_get daX16_pushTo 24 (r := (45, .aload 4, 2)) rfl
theorem dX16_pushTo_47 : decode cX16_pushTo 47 = .ok (.iload 5, 2) := dk_get daX16_pushTo 25 (r := (47, .iload 5, 2)) rfl
theorem dX16_pushTo_49 : decode cX16_pushTo 49 = .ok (.iload_n 3, 1) := dk_get daX16_pushTo 26 (r := (49, .iload_n 3, 1)) rfl
theorem dX16_pushTo_50 : decode cX16_pushTo 50 = .ok (.i2b, 1) := dk_get daX16_pushTo 27 (r := (50, .i2b, 1)) rfl
theorem dX16_pushTo_51 : decode cX16_pushTo 51 = .ok (.bastore, 1) := dk_get daX16_pushTo 28 (r := (51, .bastore, 1)) rfl
theorem dX16_pushTo_52 : decode cX16_pushTo 52 = .ok (.iinc 5 1, 3) := dk_get daX16_pushTo 29 (r := (52, .iinc 5 1, 3)) rfl
theorem dX16_pushTo_55 : decode cX16_pushTo 55 = .ok (.iload_n 3, 1) := dk_get daX16_pushTo 30 (r := (55, .iload_n 3, 1)) rfl
theorem dX16_pushTo_56 : decode cX16_pushTo 56 = .ok (.sipush 255, 3) := dk_get daX16_pushTo 31 (r := (56, .sipush 255, 3)) rfl
theorem dX16_pushTo_59 : decode cX16_pushTo 59 = .ok (.if_icmp .le 16, 3) := dk_get daX16_pushTo 32 (r := (59, .if_icmp .le 16, 3)) rfl
theorem dX16_pushTo_62 : decode cX16_pushTo 62 = .ok (.aload 4, 2) := dk_get daX16_pushTo 33 (r := (62, .aload 4, 2)) rfl
theorem dX16_pushTo_64 : decode cX16_pushTo 64 = .ok (.iload 5, 2) := dk_get daX16_pushTo 34 (r := (64, .iload 5, 2)) rfl
theorem dX16_pushTo_66 : decode cX16_pushTo 66 = .ok (.iload_n 3, 1) := dk_get daX16_pushTo 35 (r := (66, .iload_n 3, 1)) rfl
theorem dX16_pushTo_67 : decode cX16_pushTo 67 = .ok (.bipush 8, 2) := dk_get daX16_pushTo 36 (r := (67, .bipush 8, 2)) rfl
theorem dX16_pushTo_69 : decode cX16_pushTo 69 = .ok (.ishr, 1) := dk_get daX16_pushTo 37 (r := (69, .ishr, 1)) rfl
theorem dX16_pushTo_70 : decode cX16_pushTo 70 = .ok (.i2b, 1) := dk_get daX16_pushTo 38 (r := (70, .i2b, 1)) rfl
theorem dX16_pushTo_71 : decode cX16_pushTo 71 = .ok (.bastore, 1) := dk_get daX16_pushTo 39 (r := (71, .bastore, 1)) rfl
theorem dX16_pushTo_72 : decode cX16_pushTo 72 = .ok (.iinc 5 1, 3) := dk_get daX16_pushTo 40 (r := (72, .iinc 5 1, 3)) rfl
theorem dX16_pushTo_75 : decode cX16_pushTo 75 = .ok (.iconst 0, 1) := dk_get daX16_pushTo 41 (r := (75, .iconst 0, 1)) rfl
theorem dX16_pushTo_76 : decode cX16_pushTo 76 = .ok (.istore 6, 2) := dk_get daX16_pushTo 42 (r := (76, .istore 6, 2)) rfl
theorem dX16_pushTo_78 : decode cX16_pushTo 78 = .ok (.iload 6, 2) := dk_get daX16_pushTo 43 (r := (78, .iload 6, 2)) rfl
theorem dX16_pushTo_80 : decode cX16_pushTo 80 = .ok (.iload_n 3, 1) := dk_get daX16_pushTo 44 (r := (80, .iload_n 3, 1)) rfl
theorem dX16_pushTo_81 : decode cX16_pushTo 81 = .ok (.if_icmp .ge 21, 3) := dk_get daX16_pushTo 45 (r := (81, .if_icmp .ge 21, 3)) rfl
theorem dX16_pushTo_84 : decode cX16_pushTo 84 = .ok (.aload 4, 2) := dk_get daX16_pushTo 46 (r := (84, .aload 4, 2)) rfl
theorem dX16_pushTo_86 : decode cX16_pushTo 86 = .ok (.iload 5, 2) := dk_get daX16_pushTo 47 (r := (86, .iload 5, 2)) rfl
theorem dX16_pushTo_88 : decode cX16_pushTo 88 = .ok (.iload 6, 2) := dk_get daX16_pushTo 48 (r := (88, .iload 6, 2)) rfl
theorem dX16_pushTo_90 : decode cX16_pushTo 90 = .ok (.iadd, 1) := dk_get daX16_pushTo 49 (r := (90, .iadd, 1)) rfl
theorem dX16_pushTo_91 : decode cX16_pushTo 91 = .ok (.aload_n 2, 1) := dk_get daX16_pushTo 50 (r := (91, .aload_n 2, 1)) rfl
theorem dX16_pushTo_92 : decode cX16_pushTo 92 = .ok (.iload 6, 2) := dk_get daX16_pushTo 51 (r := (92, .iload 6, 2)) rfl
theorem dX16_pushTo_94 : decode cX16_pushTo 94 = .ok (.baload, 1) := dk_get daX16_pushTo 52 (r := (94, .baload, 1)) rfl
theorem dX16_pushTo_95 : decode cX16_pushTo 95 = .ok (.bastore, 1) := dk_get daX16_pushTo 53 (r := (95, .bastore, 1)) rfl
theorem dX16_pushTo_96 : decode cX16_pushTo 96 = .ok (.iinc 6 1, 3) := dk_get daX16_pushTo 54 (r := (96, .iinc 6 1, 3)) rfl
theorem dX16_pushTo_99 : decode cX16_pushTo 99 = .ok (.goto (-21), 3) := dk_get daX16_pushTo 55 (r := (99, .goto (-21), 3)) rfl
theorem dX16_pushTo_102 : decode cX16_pushTo 102 = .ok (.aload_n 0, 1) := dk_get daX16_pushTo 56 (r := (102, .aload_n 0, 1)) rfl
theorem dX16_pushTo_103 : decode cX16_pushTo 103 = .ok (.getfield 743, 3) := dk_get daX16_pushTo 57 (r := (103, .getfield 743, 3)) rfl
theorem dX16_pushTo_106 : decode cX16_pushTo 106 = .ok (.iload_n 1, 1) := dk_get daX16_pushTo 58 (r := (106, .iload_n 1, 1)) rfl
theorem dX16_pushTo_107 : decode cX16_pushTo 107 = .ok (.iload 5, 2) := dk_get daX16_pushTo 59 (r := (107, .iload 5, 2)) rfl
theorem dX16_pushTo_109 : decode cX16_pushTo 109 = .ok (.iload_n 3, 1) := dk_get daX16_pushTo 60 (r := (109, .iload_n 3, 1)) rfl
theorem dX16_pushTo_110 : decode cX16_pushTo 110 = .ok (.iadd, 1) := dk_get daX16_pushTo 61 (r := (110, .iadd, 1)) rfl
theorem dX16_pushTo_111 : decode cX16_pushTo 111 = .ok (.iastore, 1) := dk_get daX16_pushTo 62 (r := (111, .iastore, 1)) rfl
theorem dX16_pushTo_112 : decode cX16_pushTo 112 = .ok (.return_, 1) := dk_get daX16_pushTo 63 (r := (112, .return_, 1)) rfl
abbrev mX16_push_ : ks_M := (RX16, cX16_push_, 4, (some .int), "push")
def drX16_push_ : List (Nat × Instr × Nat) := [(0, .aload_n 0, 1), (1, .aload_n 0, 1), (2, .getfield 865, 3), (5, .ifCond .le 7, 3), (8, .iconst 1, 1), (9, .goto 4, 3), (12, .iconst 0, 1), (13, .iconst 2, 1), (14, .invokevirtual 891, 3), (17, .ifCond .eq 16, 3), (20, .aload_n 0, 1), (21, .aload_n 0, 1), (22, .iload_n 1, 1), (23, .invokevirtual 912, 3), (26, .iconst 1, 1), (27, .invokevirtual 891, 3), (30, .ifCond .ne 5, 3), (33, .iconst 0, 1), (34, .ireturn, 1), (35, .bipush 6, 2), (37, .aload_n 0, 1), (38, .getfield 865, 3), (41, .iconst 1, 1), (42, .isub, 1), (43, .imul, 1), (44, .iload_n 1, 1), (45, .iadd, 1), (46, .istore_n 2, 1), (47, .aload_n 0, 1), (48, .getfield 862, 3), (51, .aload_n 0, 1), (52, .getfield 862, 3), (55, .bipush 76, 2), (57, .if_icmp .ge 7, 3), (60, .iconst 1, 1), (61, .goto 18, 3), (64, .aload_n 0, 1), (65, .getfield 862, 3), (68, .sipush 256, 3), (71, .if_icmp .ge 7, 3), (74, .iconst 2, 1), (75, .goto 4, 3), (78, .iconst 3, 1), (79, .iadd, 1), (80, .istore_n 3, 1), (81, .aload_n 0, 1), (82, .aload_n 0, 1), (83, .getfield 743, 3), (86, .iload_n 2, 1), (87, .iaload, 1), (88, .iload_n 3, 1), (89, .iadd, 1), (90, .sipush 600, 3), (93, .if_icmp .gt 7, 3), (96, .iconst 1, 1), (97, .goto 4, 3), (100, .iconst 0, 1), (101, .iconst 3, 1), (102, .invokevirtual 891, 3), (105, .ifCond .ne 5, 3), (108, .iconst 0, 1), (109, .ireturn, 1), (110, .aload_n 0, 1), (111, .iload_n 2, 1), (112, .aload_n 0, 1), (113, .getfield 801, 3), (116, .aload_n 0, 1), (117, .getfield 862, 3), (120, .invokevirtual 915, 3), (123, .aload_n 0, 1), (124, .iconst 0, 1), (125, .putfield 862, 3), (128, .aload_n 0, 1), (129, .getfield 743, 3), (132, .iload_n 2, 1), (133, .iaload, 1), (134, .ireturn, 1)]
set_option maxRecDepth 100000 in
theorem daX16_push_ : dk_all cX16_push_ drX16_push_ = true := by decide +kernel
theorem dX16_push__0 : decode cX16_push_ 0 = .ok (.aload_n 0, 1) := dk_get daX16_push_ 0 (r := (0, .aload_n 0, 1)) rfl
theorem dX16_push__1 : decode cX16_push_ 1 = .ok (.aload_n 0, 1) := dk_get daX16_push_ 1 (r := (1, .aload_n 0, 1)) rfl
theorem dX16_push__2 : decode cX16_push_ 2 = .ok (.getfield 865, 3) := dk_get daX16_push_ 2 (r := (2, .getfield 865, 3)) rfl
theorem dX16_push__5 : decode cX16_push_ 5 = .ok (.ifCond .le 7, 3) := dk_get daX16_push_ 3 (r := (5, .ifCond .le 7, 3)) rfl
theorem dX16_push__8 : decode cX16_push_ 8 = .ok (.iconst 1, 1) := dk_get daX16_push_ 4 (r := (8, .iconst 1, 1)) rfl
theorem dX16_push__9 : decode cX16_push_ 9 = .ok (.goto 4, 3) := dk_get daX16_push_ 5 (r := (9, .goto 4, 3)) rfl
theorem dX16_push__12 : decode cX16_push_ 12 = .ok (.iconst 0, 1) := dk_get daX16_push_ 6 (r := (12, .iconst 0, 1)) rfl
theorem dX16_push__13 : decode cX16_push_ 13 = .ok (.iconst 2, 1) := dk_get daX16_push_ 7 (r := (13, .iconst 2, 1)) rfl
theorem dX16_push__14 : decode cX16_push_ 14 = .ok (.invokevirtual 891, 3) := dk_get daX16_push_ 8 (r := (14, .invokevirtual 891, 3)) rfl
theorem dX16_push__17 : decode cX16_push_ 17 = .ok (.ifCond .eq 16, 3) := dk_get daX16_push_ 9 (r := (17, .ifCond .eq 16, 3)) rfl
theorem dX16_push__20 : decode cX16_push_ 20 = .ok (.aload_n 0, 1) := dk_get daX16_push_ 10 (r := (20, .aload_n 0, 1)) rfl
theorem dX16_push__21 : decode cX16_push_ 21 = .ok (.aload_n 0, 1) := dk_get daX16_push_ 11 (r := (21, .aload_n 0, 1)) rfl
theorem dX16_push__22 : decode cX16_push_ 22 = .ok (.iload_n 1, 1) := dk_get daX16_push_ 12 (r := (22, .iload_n 1, 1)) rfl
theorem dX16_push__23 : decode cX16_push_ 23 = .ok (.invokevirtual 912, 3) := dk_get daX16_push_ 13 (r := (23, .invokevirtual 912, 3)) rfl
theorem dX16_push__26 : decode cX16_push_ 26 = .ok (.iconst 1, 1) := dk_get daX16_push_ 14 (r := (26, .iconst 1, 1)) rfl
theorem dX16_push__27 : decode cX16_push_ 27 = .ok (.invokevirtual 891, 3) := dk_get daX16_push_ 15 (r := (27, .invokevirtual 891, 3)) rfl
theorem dX16_push__30 : decode cX16_push_ 30 = .ok (.ifCond .ne 5, 3) := dk_get daX16_push_ 16 (r := (30, .ifCond .ne 5, 3)) rfl
theorem dX16_push__33 : decode cX16_push_ 33 = .ok (.iconst 0, 1) := dk_get daX16_push_ 17 (r := (33, .iconst 0, 1)) rfl
theorem dX16_push__34 : decode cX16_push_ 34 = .ok (.ireturn, 1) := dk_get daX16_push_ 18 (r := (34, .ireturn, 1)) rfl
theorem dX16_push__35 : decode cX16_push_ 35 = .ok (.bipush 6, 2) := dk_get daX16_push_ 19 (r := (35, .bipush 6, 2)) rfl
theorem dX16_push__37 : decode cX16_push_ 37 = .ok (.aload_n 0, 1) := dk_get daX16_push_ 20 (r := (37, .aload_n 0, 1)) rfl
theorem dX16_push__38 : decode cX16_push_ 38 = .ok (.getfield 865, 3) := dk_get daX16_push_ 21 (r := (38, .getfield 865, 3)) rfl
theorem dX16_push__41 : decode cX16_push_ 41 = .ok (.iconst 1, 1) := dk_get daX16_push_ 22 (r := (41, .iconst 1, 1)) rfl
theorem dX16_push__42 : decode cX16_push_ 42 = .ok (.isub, 1) := dk_get daX16_push_ 23 (r := (42, .isub, 1)) rfl
theorem dX16_push__43 : decode cX16_push_ 43 = .ok (.imul, 1) := dk_get daX16_push_ 24 (r := (43, .imul, 1)) rfl
theorem dX16_push__44 : decode cX16_push_ 44 = .ok (.iload_n 1, 1) := dk_get daX16_push_ 25 (r := (44, .iload_n 1, 1)) rfl
theorem dX16_push__45 : decode cX16_push_ 45 = .ok (.iadd, 1) := dk_get daX16_push_ 26 (r := (45, .iadd, 1)) rfl
theorem dX16_push__46 : decode cX16_push_ 46 = .ok (.istore_n 2, 1) := dk_get daX16_push_ 27 (r := (46, .istore_n 2, 1)) rfl
theorem dX16_push__47 : decode cX16_push_ 47 = .ok (.aload_n 0, 1) := dk_get daX16_push_ 28 (r := (47, .aload_n 0, 1)) rfl
theorem dX16_push__48 : decode cX16_push_ 48 = .ok (.getfield 862, 3) := dk_get daX16_push_ 29 (r := (48, .getfield 862, 3)) rfl
theorem dX16_push__51 : decode cX16_push_ 51 = .ok (.aload_n 0, 1) := dk_get daX16_push_ 30 (r := (51, .aload_n 0, 1)) rfl
theorem dX16_push__52 : decode cX16_push_ 52 = .ok (.getfield 862, 3) := dk_get daX16_push_ 31 (r := (52, .getfield 862, 3)) rfl
theorem dX16_push__55 : decode cX16_push_ 55 = .ok (.bipush 76, 2) := dk_get daX16_push_ 32 (r := (55, .bipush 76, 2)) rfl
theorem dX16_push__57 : decode cX16_push_ 57 = .ok (.if_icmp .ge 7, 3) := dk_get daX16_push_ 33 (r := (57, .if_icmp .ge 7, 3)) rfl
theorem dX16_push__60 : decode cX16_push_ 60 = .ok (.iconst 1, 1) := dk_get daX16_push_ 34 (r := (60, .iconst 1, 1)) rfl
theorem dX16_push__61 : decode cX16_push_ 61 = .ok (.goto 18, 3) := dk_get daX16_push_ 35 (r := (61, .goto 18, 3)) rfl
theorem dX16_push__64 : decode cX16_push_ 64 = .ok (.aload_n 0, 1) := dk_get daX16_push_ 36 (r := (64, .aload_n 0, 1)) rfl
theorem dX16_push__65 : decode cX16_push_ 65 = .ok (.getfield 862, 3) := dk_get daX16_push_ 37 (r := (65, .getfield 862, 3)) rfl
theorem dX16_push__68 : decode cX16_push_ 68 = .ok (.sipush 256, 3) := dk_get daX16_push_ 38 (r := (68, .sipush 256, 3)) rfl
theorem dX16_push__71 : decode cX16_push_ 71 = .ok (.if_icmp .ge 7, 3) := dk_get daX16_push_ 39 (r := (71, .if_icmp .ge 7, 3)) rfl
theorem dX16_push__74 : decode cX16_push_ 74 = .ok (.iconst 2, 1) := dk_get daX16_push_ 40 (r := (74, .iconst 2, 1)) rfl
theorem dX16_push__75 : decode cX16_push_ 75 = .ok (.goto 4, 3) := dk_get daX16_push_ 41 (r := (75, .goto 4, 3)) rfl
theorem dX16_push__78 : decode cX16_push_ 78 = .ok (.iconst 3, 1) := dk_get daX16_push_ 42 (r := (78, .iconst 3, 1)) rfl
theorem dX16_push__79 : decode cX16_push_ 79 = .ok (.iadd, 1) := dk_get daX16_push_ 43 (r := (79, .iadd, 1)) rfl
theorem dX16_push__80 : decode cX16_push_ 80 = .ok (.istore_n 3, 1) := dk_get daX16_push_ 44 (r := (80, .istore_n 3, 1)) rfl
theorem dX16_push__81 : decode cX16_push_ 81 = .ok (.aload_n 0, 1) := dk_get daX16_push_ 45 (r := (81, .aload_n 0, 1)) rfl
theorem dX16_push__82 : decode cX16_push_ 82 = .ok (.aload_n 0, 1) := dk_get daX16_push_ 46 (r := (82, .aload_n 0, 1)) rfl
theorem dX16_push__83 : decode cX16_push_ 83 = .ok (.getfield 743, 3) := dk_get daX16_push_ 47 (r := (83, .getfield 743, 3)) rfl
theorem dX16_push__86 : decode cX16_push_ 86 = .ok (.iload_n 2, 1) := dk_get daX16_push_ 48 (r := (86, .iload_n 2, 1)) rfl
theorem dX16_push__87 : decode cX16_push_ 87 = .ok (.iaload, 1) := dk_get daX16_push_ 49 (r := (87, .iaload, 1)) rfl
theorem dX16_push__88 : decode cX16_push_ 88 = .ok (.iload_n 3, 1) := dk_get daX16_push_ 50 (r := (88, .iload_n 3, 1)) rfl
theorem dX16_push__89 : decode cX16_push_ 89 = .ok (.iadd, 1) := dk_get daX16_push_ 51 (r := (89, .iadd, 1)) rfl
theorem dX16_push__90 : decode cX16_push_ 90 = .ok (.sipush 600, 3) := dk_get daX16_push_ 52 (r := (90, .sipush 600, 3)) rfl
theorem dX16_push__93 : decode cX16_push_ 93 = .ok (.if_icmp .gt 7, 3) := dk_get daX16_push_ 53 (r := (93, .if_icmp .gt 7, 3)) rfl
theorem dX16_push__96 : decode cX16_push_ 96 = .ok (.iconst 1, 1) := dk_get daX16_push_ 54 (r := (96, .iconst 1, 1)) rfl
theorem dX16_push__97 : decode cX16_push_ 97 = .ok (.goto 4, 3) := dk_get daX16_push_ 55 (r := (97, .goto 4, 3)) rfl
theorem dX16_push__100 : decode cX16_push_ 100 = .ok (.iconst 0, 1) := dk_get daX16_push_ 56 (r := (100, .iconst 0, 1)) rfl
theorem dX16_push__101 : decode cX16_push_ 101 = .ok (.iconst 3, 1) := dk_get daX16_push_ 57 (r := (101, .iconst 3, 1)) rfl
theorem dX16_push__102 : decode cX16_push_ 102 = .ok (.invokevirtual 891, 3) := dk_get daX16_push_ 58 (r := (102, .invokevirtual 891, 3)) rfl
theorem dX16_push__105 : decode cX16_push_ 105 = .ok (.ifCond .ne 5, 3) := dk_get daX16_push_ 59 (r := (105, .ifCond .ne 5, 3)) rfl
theorem dX16_push__108 : decode cX16_push_ 108 = .ok (.iconst 0, 1) := dk_get daX16_push_ 60 (r := (108, .iconst 0, 1)) rfl
theorem dX16_push__109 : decode cX16_push_ 109 = .ok (.ireturn, 1) := dk_get daX16_push_ 61 (r := (109, .ireturn, 1)) rfl
theorem dX16_push__110 : decode cX16_push_ 110 = .ok (.aload_n 0, 1) := dk_get daX16_push_ 62 (r := (110, .aload_n 0, 1)) rfl
theorem dX16_push__111 : decode cX16_push_ 111 = .ok (.iload_n 2, 1) := dk_get daX16_push_ 63 (r := (111, .iload_n 2, 1)) rfl
theorem dX16_push__112 : decode cX16_push_ 112 = .ok (.aload_n 0, 1) := dk_get daX16_push_ 64 (r := (112, .aload_n 0, 1)) rfl
theorem dX16_push__113 : decode cX16_push_ 113 = .ok (.getfield 801, 3) := dk_get daX16_push_ 65 (r := (113, .getfield 801, 3)) rfl
theorem dX16_push__116 : decode cX16_push_ 116 = .ok (.aload_n 0, 1) := dk_get daX16_push_ 66 (r := (116, .aload_n 0, 1)) rfl
theorem dX16_push__117 : decode cX16_push_ 117 = .ok (.getfield 862, 3) := dk_get daX16_push_ 67 (r := (117, .getfield 862, 3)) rfl
theorem dX16_push__120 : decode cX16_push_ 120 = .ok (.invokevirtual 915, 3) := dk_get daX16_push_ 68 (r := (120, .invokevirtual 915, 3)) rfl
theorem dX16_push__123 : decode cX16_push_ 123 = .ok (.aload_n 0, 1) := dk_get daX16_push_ 69 (r := (123, .aload_n 0, 1)) rfl
theorem dX16_push__124 : decode cX16_push_ 124 = .ok (.iconst 0, 1) := dk_get daX16_push_ 70 (r := (124, .iconst 0, 1)) rfl
theorem dX16_push__125 : decode cX16_push_ 125 = .ok (.putfield 862, 3) := dk_get daX16_push_ 71 (r := (125, .putfield 862, 3)) rfl
theorem dX16_push__128 : decode cX16_push_ 128 = .ok (.aload_n 0, 1) := dk_get daX16_push_ 72 (r := (128, .aload_n 0, 1)) rfl
theorem dX16_push__129 : decode cX16_push_ 129 = .ok (.getfield 743, 3) := dk_get daX16_push_ 73 (r := (129, .getfield 743, 3)) rfl
theorem dX16_push__132 : decode cX16_push_ 132 = .ok (.iload_n 2, 1) := dk_get daX16_push_ 74 (r := (132, .iload_n 2, 1)) rfl
theorem dX16_push__133 : decode cX16_push_ 133 = .ok (.iaload, 1) := dk_get daX16_push_ 75 (r := (133, .iaload, 1)) rfl
theorem dX16_push__134 : decode cX16_push_ 134 = .ok (.ireturn, 1) := dk_get daX16_push_ 76 (r := (134, .ireturn, 1)) rfl
abbrev mX16_der : ks_M := (RX16, cX16_der, 4, none, "der")
def drX16_der : List (Nat × Instr × Nat) := [(0, .aload_n 1, 1), (1, .aload_n 0, 1), (2, .getfield 816, 3), (5, .iconst 0, 1), (6, .invokestatic 898, 3), (9, .iconst 0, 1), (10, .istore_n 2, 1), (11, .iload_n 2, 1), (12, .bipush 31, 2), (14, .if_icmp .ge 18, 3), (17, .aload_n 0, 1), (18, .getfield 816, 3), (21, .iload_n 2, 1), (22, .baload, 1), (23, .ifCond .ne 9, 3), (26, .iinc 2 1, 3), (29, .goto (-18), 3), (32, .aload_n 0, 1), (33, .getfield 816, 3), (36, .iload_n 2, 1), (37, .baload, 1), (38, .ifCond .ge 7, 3), (41, .iconst 1, 1), (42, .goto 4, 3), (45, .iconst 0, 1), (46, .istore_n 3, 1), (47, .aload_n 0, 1), (48, .getfield 813, 3), (51, .aload_n 0, 1), (52, .getfield 918, 3), (55, .iconst 2, 1), (56, .bastore, 1), (57, .aload_n 0, 1), (58, .getfield 813, 3), (61, .aload_n 0, 1), (62, .getfield 918, 3), (65, .iconst 1, 1), (66, .iadd, 1), (67, .bipush 32, 2), (69, .iload_n 2, 1), (70, .isub, 1), (71, .iload_n 3, 1), (72, .ifCond .eq 7, 3), (75, .iconst 1, 1), (76, .goto 4, 3), (79, .iconst 0, 1), (80, .iadd, 1), (81, .i2b, 1), (82, .bastore, 1), (83, .aload_n 0, 1), (84, .dup, 1), (85, .getfield 918, 3), (88, .iconst 2, 1), (89, .iadd, 1), (90, .putfield 918, 3), (93, .iload_n 3, 1), (94, .ifCond .eq 23, 3), (97, .aload_n 0, 1), (98, .getfield 813, 3), (101, .aload_n 0, 1), (102, .getfield 918, 3), (105, .iconst 0, 1), (106, .bastore, 1), (107, .aload_n 0, 1), (108, .dup, 1), (109, .getfield 918, 3), (112, .iconst 1, 1), (113, .iadd, 1), (114, .putfield 918, 3), (117, .iload_n 2, 1), (118, .bipush 32, 2), (120, .if_icmp .ge 34, 3), (123, .aload_n 0, 1), (124, .getfield 813, 3), (127, .aload_n 0, 1), (128, .getfield 918, 3), (131, .aload_n 0, 1), (132, .getfield 816, 3), (135, .iload_n 2, 1), (136, .baload, 1), (137, .bastore, 1), (138, .aload_n 0, 1), (139, .dup, 1), (140, .getfield 918, 3), (143, .iconst 1, 1), (144, .iadd, 1), (145, .putfield 918, 3), (148, .iinc 2 1, 3), (151, .goto (-34), 3), (154, .return_, 1)]
set_option maxRecDepth 100000 in
theorem daX16_der : dk_all cX16_der drX16_der = true := by decide +kernel
theorem dX16_der_0 : decode cX16_der 0 = .ok (.aload_n 1, 1) := dk_get daX16_der 0 (r := (0, .aload_n 1, 1)) rfl
theorem dX16_der_1 : decode cX16_der 1 = .ok (.aload_n 0, 1) := dk_get daX16_der 1 (r := (1, .aload_n 0, 1)) rfl
theorem dX16_der_2 : decode cX16_der 2 = .ok (.getfield 816, 3) := dk_get daX16_der 2 (r := (2, .getfield 816, 3)) rfl
theorem dX16_der_5 : decode cX16_der 5 = .ok (.iconst 0, 1) := dk_get daX16_der 3 (r := (5, .iconst 0, 1)) rfl
theorem dX16_der_6 : decode cX16_der 6 = .ok (.invokestatic 898, 3) := dk_get daX16_der 4 (r := (6, .invokestatic 898, 3)) rfl
theorem dX16_der_9 : decode cX16_der 9 = .ok (.iconst 0, 1) := dk_get daX16_der 5 (r := (9, .iconst 0, 1)) rfl
theorem dX16_der_10 : decode cX16_der 10 = .ok (.istore_n 2, 1) := dk_get daX16_der 6 (r := (10, .istore_n 2, 1)) rfl
theorem dX16_der_11 : decode cX16_der 11 = .ok (.iload_n 2, 1) := dk_get daX16_der 7 (r := (11, .iload_n 2, 1)) rfl
theorem dX16_der_12 : decode cX16_der 12 = .ok (.bipush 31, 2) := dk_get daX16_der 8 (r := (12, .bipush 31, 2)) rfl
theorem dX16_der_14 : decode cX16_der 14 = .ok (.if_icmp .ge 18, 3) := dk_get daX16_der 9 (r := (14, .if_icmp .ge 18, 3)) rfl
theorem dX16_der_17 : decode cX16_der 17 = .ok (.aload_n 0, 1) := dk_get daX16_der 10 (r := (17, .aload_n 0, 1)) rfl
theorem dX16_der_18 : decode cX16_der 18 = .ok (.getfield 816, 3) := dk_get daX16_der 11 (r := (18, .getfield 816, 3)) rfl
theorem dX16_der_21 : decode cX16_der 21 = .ok (.iload_n 2, 1) := dk_get daX16_der 12 (r := (21, .iload_n 2, 1)) rfl
theorem dX16_der_22 : decode cX16_der 22 = .ok (.baload, 1) := dk_get daX16_der 13 (r := (22, .baload, 1)) rfl
theorem dX16_der_23 : decode cX16_der 23 = .ok (.ifCond .ne 9, 3) := dk_get daX16_der 14 (r := (23, .ifCond .ne 9, 3)) rfl
theorem dX16_der_26 : decode cX16_der 26 = .ok (.iinc 2 1, 3) := dk_get daX16_der 15 (r := (26, .iinc 2 1, 3)) rfl
theorem dX16_der_29 : decode cX16_der 29 = .ok (.goto (-18), 3) := dk_get daX16_der 16 (r := (29, .goto (-18), 3)) rfl
theorem dX16_der_32 : decode cX16_der 32 = .ok (.aload_n 0, 1) := dk_get daX16_der 17 (r := (32, .aload_n 0, 1)) rfl
theorem dX16_der_33 : decode cX16_der 33 = .ok (.getfield 816, 3) := dk_get daX16_der 18 (r := (33, .getfield 816, 3)) rfl
theorem dX16_der_36 : decode cX16_der 36 = .ok (.iload_n 2, 1) := dk_get daX16_der 19 (r := (36, .iload_n 2, 1)) rfl
theorem dX16_der_37 : decode cX16_der 37 = .ok (.baload, 1) := dk_get daX16_der 20 (r := (37, .baload, 1)) rfl
theorem dX16_der_38 : decode cX16_der 38 = .ok (.ifCond .ge 7, 3) := dk_get daX16_der 21 (r := (38, .ifCond .ge 7, 3)) rfl
theorem dX16_der_41 : decode cX16_der 41 = .ok (.iconst 1, 1) := dk_get daX16_der 22 (r := (41, .iconst 1, 1)) rfl
theorem dX16_der_42 : decode cX16_der 42 = .ok (.goto 4, 3) := dk_get daX16_der 23 (r := (42, .goto 4, 3)) rfl
theorem dX16_der_45 : decode cX16_der 45 = .ok (.iconst 0, 1) := dk_get daX16_der 24 (r := (45, .iconst 0, 1)) rfl
theorem dX16_der_46 : decode cX16_der 46 = .ok (.istore_n 3, 1) := dk_get daX16_der 25 (r := (46, .istore_n 3, 1)) rfl
theorem dX16_der_47 : decode cX16_der 47 = .ok (.aload_n 0, 1) := dk_get daX16_der 26 (r := (47, .aload_n 0, 1)) rfl
theorem dX16_der_48 : decode cX16_der 48 = .ok (.getfield 813, 3) := dk_get daX16_der 27 (r := (48, .getfield 813, 3)) rfl
theorem dX16_der_51 : decode cX16_der 51 = .ok (.aload_n 0, 1) := dk_get daX16_der 28 (r := (51, .aload_n 0, 1)) rfl
theorem dX16_der_52 : decode cX16_der 52 = .ok (.getfield 918, 3) := dk_get daX16_der 29 (r := (52, .getfield 918, 3)) rfl
theorem dX16_der_55 : decode cX16_der 55 = .ok (.iconst 2, 1) := dk_get daX16_der 30 (r := (55, .iconst 2, 1)) rfl
theorem dX16_der_56 : decode cX16_der 56 = .ok (.bastore, 1) := dk_get daX16_der 31 (r := (56, .bastore, 1)) rfl
theorem dX16_der_57 : decode cX16_der 57 = .ok (.aload_n 0, 1) := dk_get daX16_der 32 (r := (57, .aload_n 0, 1)) rfl
theorem dX16_der_58 : decode cX16_der 58 = .ok (.getfield 813, 3) := dk_get daX16_der 33 (r := (58, .getfield 813, 3)) rfl
theorem dX16_der_61 : decode cX16_der 61 = .ok (.aload_n 0, 1) := dk_get daX16_der 34 (r := (61, .aload_n 0, 1)) rfl
theorem dX16_der_62 : decode cX16_der 62 = .ok (.getfield 918, 3) := dk_get daX16_der 35 (r := (62, .getfield 918, 3)) rfl
theorem dX16_der_65 : decode cX16_der 65 = .ok (.iconst 1, 1) := dk_get daX16_der 36 (r := (65, .iconst 1, 1)) rfl
theorem dX16_der_66 : decode cX16_der 66 = .ok (.iadd, 1) := dk_get daX16_der 37 (r := (66, .iadd, 1)) rfl
theorem dX16_der_67 : decode cX16_der 67 = .ok (.bipush 32, 2) := dk_get daX16_der 38 (r := (67, .bipush 32, 2)) rfl
theorem dX16_der_69 : decode cX16_der 69 = .ok (.iload_n 2, 1) := dk_get daX16_der 39 (r := (69, .iload_n 2, 1)) rfl
theorem dX16_der_70 : decode cX16_der 70 = .ok (.isub, 1) := dk_get daX16_der 40 (r := (70, .isub, 1)) rfl
theorem dX16_der_71 : decode cX16_der 71 = .ok (.iload_n 3, 1) := dk_get daX16_der 41 (r := (71, .iload_n 3, 1)) rfl
theorem dX16_der_72 : decode cX16_der 72 = .ok (.ifCond .eq 7, 3) := dk_get daX16_der 42 (r := (72, .ifCond .eq 7, 3)) rfl
theorem dX16_der_75 : decode cX16_der 75 = .ok (.iconst 1, 1) := dk_get daX16_der 43 (r := (75, .iconst 1, 1)) rfl
theorem dX16_der_76 : decode cX16_der 76 = .ok (.goto 4, 3) := dk_get daX16_der 44 (r := (76, .goto 4, 3)) rfl
theorem dX16_der_79 : decode cX16_der 79 = .ok (.iconst 0, 1) := dk_get daX16_der 45 (r := (79, .iconst 0, 1)) rfl
theorem dX16_der_80 : decode cX16_der 80 = .ok (.iadd, 1) := dk_get daX16_der 46 (r := (80, .iadd, 1)) rfl
theorem dX16_der_81 : decode cX16_der 81 = .ok (.i2b, 1) := dk_get daX16_der 47 (r := (81, .i2b, 1)) rfl
theorem dX16_der_82 : decode cX16_der 82 = .ok (.bastore, 1) := dk_get daX16_der 48 (r := (82, .bastore, 1)) rfl
theorem dX16_der_83 : decode cX16_der 83 = .ok (.aload_n 0, 1) := dk_get daX16_der 49 (r := (83, .aload_n 0, 1)) rfl
theorem dX16_der_84 : decode cX16_der 84 = .ok (.dup, 1) := dk_get daX16_der 50 (r := (84, .dup, 1)) rfl
theorem dX16_der_85 : decode cX16_der 85 = .ok (.getfield 918, 3) := dk_get daX16_der 51 (r := (85, .getfield 918, 3)) rfl
theorem dX16_der_88 : decode cX16_der 88 = .ok (.iconst 2, 1) := dk_get daX16_der 52 (r := (88, .iconst 2, 1)) rfl
theorem dX16_der_89 : decode cX16_der 89 = .ok (.iadd, 1) := dk_get daX16_der 53 (r := (89, .iadd, 1)) rfl
theorem dX16_der_90 : decode cX16_der 90 = .ok (.putfield 918, 3) := dk_get daX16_der 54 (r := (90, .putfield 918, 3)) rfl
theorem dX16_der_93 : decode cX16_der 93 = .ok (.iload_n 3, 1) := dk_get daX16_der 55 (r := (93, .iload_n 3, 1)) rfl
theorem dX16_der_94 : decode cX16_der 94 = .ok (.ifCond .eq 23, 3) := dk_get daX16_der 56 (r := (94, .ifCond .eq 23, 3)) rfl
theorem dX16_der_97 : decode cX16_der 97 = .ok (.aload_n 0, 1) := dk_get daX16_der 57 (r := (97, .aload_n 0, 1)) rfl
theorem dX16_der_98 : decode cX16_der 98 = .ok (.getfield 813, 3) := dk_get daX16_der 58 (r := (98, .getfield 813, 3)) rfl
theorem dX16_der_101 : decode cX16_der 101 = .ok (.aload_n 0, 1) := dk_get daX16_der 59 (r := (101, .aload_n 0, 1)) rfl
theorem dX16_der_102 : decode cX16_der 102 = .ok (.getfield 918, 3) := dk_get daX16_der 60 (r := (102, .getfield 918, 3)) rfl
theorem dX16_der_105 : decode cX16_der 105 = .ok (.iconst 0, 1) := dk_get daX16_der 61 (r := (105, .iconst 0, 1)) rfl
theorem dX16_der_106 : decode cX16_der 106 = .ok (.bastore, 1) := dk_get daX16_der 62 (r := (106, .bastore, 1)) rfl
theorem dX16_der_107 : decode cX16_der 107 = .ok (.aload_n 0, 1) := dk_get daX16_der 63 (r := (107, .aload_n 0, 1)) rfl
theorem dX16_der_108 : decode cX16_der 108 = .ok (.dup, 1) := dk_get daX16_der 64 (r := (108, .dup, 1)) rfl
theorem dX16_der_109 : decode cX16_der 109 = .ok (.getfield 918, 3) := dk_get daX16_der 65 (r := (109, .getfield 918, 3)) rfl
theorem dX16_der_112 : decode cX16_der 112 = .ok (.iconst 1, 1) := dk_get daX16_der 66 (r := (112, .iconst 1, 1)) rfl
theorem dX16_der_113 : decode cX16_der 113 = .ok (.iadd, 1) := dk_get daX16_der 67 (r := (113, .iadd, 1)) rfl
theorem dX16_der_114 : decode cX16_der 114 = .ok (.putfield 918, 3) := dk_get daX16_der 68 (r := (114, .putfield 918, 3)) rfl
theorem dX16_der_117 : decode cX16_der 117 = .ok (.iload_n 2, 1) := dk_get daX16_der 69 (r := (117, .iload_n 2, 1)) rfl
theorem dX16_der_118 : decode cX16_der 118 = .ok (.bipush 32, 2) := dk_get daX16_der 70 (r := (118, .bipush 32, 2)) rfl
theorem dX16_der_120 : decode cX16_der 120 = .ok (.if_icmp .ge 34, 3) := dk_get daX16_der 71 (r := (120, .if_icmp .ge 34, 3)) rfl
theorem dX16_der_123 : decode cX16_der 123 = .ok (.aload_n 0, 1) := dk_get daX16_der 72 (r := (123, .aload_n 0, 1)) rfl
theorem dX16_der_124 : decode cX16_der 124 = .ok (.getfield 813, 3) := dk_get daX16_der 73 (r := (124, .getfield 813, 3)) rfl
theorem dX16_der_127 : decode cX16_der 127 = .ok (.aload_n 0, 1) := dk_get daX16_der 74 (r := (127, .aload_n 0, 1)) rfl
theorem dX16_der_128 : decode cX16_der 128 = .ok (.getfield 918, 3) := dk_get daX16_der 75 (r := (128, .getfield 918, 3)) rfl
theorem dX16_der_131 : decode cX16_der 131 = .ok (.aload_n 0, 1) := dk_get daX16_der 76 (r := (131, .aload_n 0, 1)) rfl
theorem dX16_der_132 : decode cX16_der 132 = .ok (.getfield 816, 3) := dk_get daX16_der 77 (r := (132, .getfield 816, 3)) rfl
theorem dX16_der_135 : decode cX16_der 135 = .ok (.iload_n 2, 1) := dk_get daX16_der 78 (r := (135, .iload_n 2, 1)) rfl
theorem dX16_der_136 : decode cX16_der 136 = .ok (.baload, 1) := dk_get daX16_der 79 (r := (136, .baload, 1)) rfl
theorem dX16_der_137 : decode cX16_der 137 = .ok (.bastore, 1) := dk_get daX16_der 80 (r := (137, .bastore, 1)) rfl
theorem dX16_der_138 : decode cX16_der 138 = .ok (.aload_n 0, 1) := dk_get daX16_der 81 (r := (138, .aload_n 0, 1)) rfl
theorem dX16_der_139 : decode cX16_der 139 = .ok (.dup, 1) := dk_get daX16_der 82 (r := (139, .dup, 1)) rfl
theorem dX16_der_140 : decode cX16_der 140 = .ok (.getfield 918, 3) := dk_get daX16_der 83 (r := (140, .getfield 918, 3)) rfl
theorem dX16_der_143 : decode cX16_der 143 = .ok (.iconst 1, 1) := dk_get daX16_der 84 (r := (143, .iconst 1, 1)) rfl
theorem dX16_der_144 : decode cX16_der 144 = .ok (.iadd, 1) := dk_get daX16_der 85 (r := (144, .iadd, 1)) rfl
theorem dX16_der_145 : decode cX16_der 145 = .ok (.putfield 918, 3) := dk_get daX16_der 86 (r := (145, .putfield 918, 3)) rfl
theorem dX16_der_148 : decode cX16_der 148 = .ok (.iinc 2 1, 3) := dk_get daX16_der 87 (r := (148, .iinc 2 1, 3)) rfl
theorem dX16_der_151 : decode cX16_der 151 = .ok (.goto (-34), 3) := dk_get daX16_der 88 (r := (151, .goto (-34), 3)) rfl
theorem dX16_der_154 : decode cX16_der 154 = .ok (.return_, 1) := dk_get daX16_der 89 (r := (154, .return_, 1)) rfl
abbrev mX16_sign : ks_M := (RX16, cX16_sign, 8, (some .int), "sign")
def drX16_sign : List (Nat × Instr × Nat) := [(0, .aload_n 0, 1), (1, .aload_n 0, 1), (2, .getfield 865, 3), (5, .ifCond .le 7, 3), (8, .iconst 1, 1), (9, .goto 4, 3), (12, .iconst 0, 1), (13, .iconst 2, 1), (14, .invokevirtual 891, 3), (17, .ifCond .eq 40, 3), (20, .aload_n 0, 1), (21, .aload_n 0, 1), (22, .iload_n 1, 1), (23, .invokevirtual 912, 3), (26, .ifCond .eq 23, 3), (29, .iload_n 2, 1), (30, .iconst 1, 1), (31, .if_icmp .lt 18, 3), (34, .iload_n 3, 1), (35, .ifCond .lt 14, 3), (38, .iload_n 3, 1), (39, .sipush 255, 3), (42, .if_icmp .gt 7, 3), (45, .iconst 1, 1), (46, .goto 4, 3), (49, .iconst 0, 1), (50, .iconst 1, 1), (51, .invokevirtual 891, 3), (54, .ifCond .ne 5, 3), (57, .iconst 0, 1), (58, .ireturn, 1), (59, .bipush 6, 2), (61, .aload_n 0, 1), (62, .getfield 865, 3), (65, .iconst 1, 1), (66, .isub, 1), (67, .imul, 1), (68, .iload_n 1, 1), (69, .iadd, 1), (70, .istore 4, 2), (72, .aload_n 0, 1), (73, .aload_n 0, 1), (74, .getfield 743, 3), (77, .iload 4, 2), (79, .iaload, 1), (80, .sipush 500, 3), (83, .if_icmp .gt 7, 3), (86, .iconst 1, 1), (87, .goto 4, 3), (90, .iconst 0, 1), (91, .iconst 3, 1), (92, .invokevirtual 891, 3), (95, .ifCond .ne 5, 3), (98, .iconst 0, 1), (99, .ireturn, 1), (100, .aload_n 0, 1), (101, .getfield 865, 3), (104, .iconst 1, 1), (105, .isub, 1), (106, .istore 5, 2), (108, .aload_n 0, 1), (109, .iconst 0, 1), (110, .putfield 723, 3), (113, .aload_n 0, 1), (114, .iload 5, 2), (116, .invokevirtual 767, 3), (119, .aload_n 0, 1), (120, .getfield 810, 3), (123, .aload_n 0, 1), (124, .getfield 720, 3), (127, .putfield 275, 3), (130, .aload_n 0, 1), (131, .getfield 810, 3), (134, .getfield 290, 3), (137, .iconst 0, 1), (138, .iconst 0, 1), (139, .iastore, 1), (140, .aload_n 0, 1), (141, .getfield 810, 3), (144, .getfield 313, 3), (147, .iconst 0, 1), (148, .aload_n 0, 1), (149, .getfield 723, 3), (152, .iastore, 1), (153, .aload_n 0, 1), (154, .getfield 810, 3), (157, .getfield 297, 3), (160, .iconst 0, 1), (161, .aload_n 0, 1), (162, .getfield 732, 3), (165, .iload 5, 2), (167, .iaload, 1), (168, .iastore, 1), (169, .aload_n 0, 1), (170, .getfield 810, 3), (173, .getfield 300, 3), (176, .iconst 0, 1), (177, .iconst 5, 1), (178, .iastore, 1), (179, .aload_n 0, 1), (180, .getfield 810, 3), (183, .getfield 307, 3), (186, .iconst 0, 1), (187, .aload_n 0, 1), (188, .getfield 752, 3), (191, .iload 5, 2), (193, .iaload, 1), (194, .iastore, 1), (195, .iconst 5, 1), (196, .istore 6, 2), (198, .iconst 0, 1), (199, .istore 7, 2), (201, .iload 7, 2), (203, .aload_n 0, 1), (204, .getfield 732, 3), (207, .iload 5, 2), (209, .iaload, 1), (210, .if_icmp .ge 26, 3), (213, .aload_n 0, 1), (214, .aload_n 0, 1), (215, .getfield 720, 3), (218, .iload 6, 2), (220, .bipush 36, 2), (222, .iadd, 1), (223, .invokevirtual 328, 3), (226, .iconst 4, 1), (227, .iadd, 1), (228, .istore 6, 2), (230, .iinc 7 1, 3), (233, .goto (-32), 3), (236, .aload_n 0, 1), (237, .getfield 810, 3), (240, .getfield 310, 3), (243, .iconst 0, 1), (244, .iload 6, 2), (246, .iconst 1, 1), (247, .iadd, 1), (248, .iastore, 1), (249, .aload_n 0, 1), (250, .aload_n 0, 1), (251, .getfield 801, 3), (254, .iconst 0, 1), (255, .aload_n 0, 1), (256, .getfield 862, 3), (259, .invokevirtual 690, 3), (262, .aload_n 0, 1), (263, .iconst 0, 1), (264, .putfield 862, 3), (267, .aload_n 0, 1), (268, .aload_n 0, 1), (269, .getfield 810, 3), (272, .iconst 0, 1), (273, .iload_n 1, 1), (274, .iload_n 3, 1), (275, .invokevirtual 682, 3), (278, .iconst 0, 1), (279, .istore 7, 2), (281, .iload 7, 2), (283, .bipush 64, 2), (285, .if_icmp .ge 58, 3), (288, .aload_n 0, 1), (289, .getfield 819, 3), (292, .iload 7, 2), (294, .iload 7, 2), (296, .bipush 28, 2), (298, .if_icmp .ge 7, 3), (301, .iconst 0, 1), (302, .goto 33, 3), (305, .iload 7, 2), (307, .bipush 32, 2), (309, .if_icmp .ge 16, 3), (312, .iload_n 2, 1), (313, .bipush 8, 2), (315, .bipush 31, 2), (317, .iload 7, 2), (319, .isub, 1), (320, .imul, 1), (321, .iushr, 1), (322, .goto 13, 3), (325, .aload_n 0, 1), (326, .getfield 213, 3), (329, .iload 7, 2), (331, .bipush 32, 2), (333, .isub, 1), (334, .baload, 1), (335, .i2b, 1), (336, .bastore, 1), (337, .iinc 7 1, 3), (340, .goto (-59), 3), (343, .aload_n 0, 1), (344, .aload_n 0, 1), (345, .getfield 819, 3), (348, .iconst 0, 1), (349, .bipush 64, 2), (351, .aload_n 0, 1), (352, .getfield 80, 3), (355, .iconst 0, 1), (356, .invokevirtual 83, 3), (359, .aload_n 0, 1), (360, .getfield 80, 3), (363, .iconst 0, 1), (364, .iconst 1, 1), (365, .aload_n 0, 1), (366, .getfield 216, 3), (369, .invokestatic 158, 3), (372, .aload_n 0, 1), (373, .getfield 216, 3), (376, .aload_n 0, 1), (377, .getfield 192, 3), (380, .getfield 162, 3), (383, .invokestatic 165, 3), (386, .ifCond .lt 25, 3), (389, .aload_n 0, 1), (390, .getfield 216, 3), (393, .aload_n 0, 1), (394, .getfield 192, 3), (397, .getfield 162, 3), (400, .aload_n 0, 1), (401, .getfield 216, 3), (404, .invokestatic 241, 3), (407, .pop2, 1), (408, .goto (-36), 3), (411, .aload_n 0, 1), (412, .aload_n 0, 1), (413, .getfield 216, 3), (416, .aload_n 0, 1), (417, .getfield 225, 3), (420, .aload_n 0, 1), (421, .getfield 228, 3), (424, .invokevirtual 231, 3), (427, .aload_n 0, 1), (428, .aload_n 0, 1), (429, .getfield 228, 3), (432, .aload_n 0, 1), (433, .getfield 155, 3), (436, .aload_n 0, 1), (437, .getfield 185, 3), (440, .invokevirtual 237, 3), (443, .aload_n 0, 1), (444, .getfield 155, 3), (447, .aload_n 0, 1), (448, .getfield 192, 3), (451, .getfield 162, 3), (454, .invokestatic 165, 3), (457, .ifCond .lt 25, 3), (460, .aload_n 0, 1), (461, .getfield 155, 3), (464, .aload_n 0, 1), (465, .getfield 192, 3), (468, .getfield 162, 3), (471, .aload_n 0, 1), (472, .getfield 155, 3), (475, .invokestatic 241, 3), (478, .pop2, 1), (479, .goto (-36), 3), (482, .aload_n 0, 1), (483, .getfield 192, 3), (486, .aload_n 0, 1), (487, .getfield 216, 3), (490, .aload_n 0, 1), (491, .getfield 219, 3), (494, .invokevirtual 173, 3), (497, .aload_n 0, 1), (498, .getfield 192, 3), (501, .aload_n 0, 1), (502, .getfield 219, 3), (505, .bipush (-2), 2), (507, .iconst 0, 1), (508, .aload_n 0, 1), (509, .getfield 219, 3), (512, .invokevirtual 147, 3), (515, .iconst 0, 1), (516, .istore 7, 2), (518, .iload 7, 2), (520, .bipush 8, 2), (522, .if_icmp .ge 26, 3), (525, .aload_n 0, 1), (526, .getfield 222, 3), (529, .iload 7, 2), (531, .iload 7, 2), (533, .ifCond .ne 7, 3), (536, .iload_n 2, 1), (537, .goto 4, 3), (540, .iconst 0, 1), (541, .iastore, 1), (542, .iinc 7 1, 3), (545, .goto (-27), 3), (548, .aload_n 0, 1), (549, .getfield 192, 3), (552, .aload_n 0, 1), (553, .getfield 222, 3), (556, .aload_n 0, 1), (557, .getfield 222, 3), (560, .invokevirtual 173, 3), (563, .aload_n 0, 1), (564, .getfield 192, 3), (567, .aload_n 0, 1), (568, .getfield 155, 3), (571, .aload_n 0, 1), (572, .getfield 210, 3), (575, .invokevirtual 173, 3), (578, .aload_n 0, 1), (579, .getfield 192, 3), (582, .aload_n 0, 1), (583, .getfield 222, 3), (586, .aload_n 0, 1), (587, .getfield 210, 3), (590, .aload_n 0, 1), (591, .getfield 222, 3), (594, .invokevirtual 111, 3), (597, .aload_n 0, 1), (598, .getfield 213, 3), (601, .iconst 0, 1), (602, .iconst 1, 1), (603, .aload_n 0, 1), (604, .getfield 210, 3), (607, .invokestatic 158, 3), (610, .aload_n 0, 1), (611, .getfield 192, 3), (614, .aload_n 0, 1), (615, .getfield 210, 3), (618, .aload_n 0, 1), (619, .getfield 210, 3), (622, .invokevirtual 173, 3), (625, .aload_n 0, 1), (626, .getfield 192, 3), (629, .aload_n 0, 1), (630, .getfield 210, 3), (633, .aload_n 0, 1), (634, .getfield 222, 3), (637, .aload_n 0, 1), (638, .getfield 210, 3), (641, .invokevirtual 121, 3), (644, .aload_n 0, 1), (645, .getfield 192, 3), (648, .aload_n 0, 1), (649, .getfield 210, 3), (652, .aload_n 0, 1), (653, .getfield 219, 3), (656, .aload_n 0, 1), (657, .getfield 210, 3), (660, .invokevirtual 111, 3), (663, .aload_n 0, 1), (664, .getfield 192, 3), (667, .aload_n 0, 1), (668, .getfield 210, 3), (671, .aload_n 0, 1), (672, .getfield 210, 3), (675, .invokevirtual 151, 3), (678, .aload_n 0, 1), (679, .iconst 2, 1), (680, .putfield 918, 3), (683, .aload_n 0, 1), (684, .aload_n 0, 1), (685, .getfield 155, 3), (688, .invokevirtual 921, 3), (691, .aload_n 0, 1), (692, .aload_n 0, 1), (693, .getfield 210, 3), (696, .invokevirtual 921, 3), (699, .aload_n 0, 1), (700, .getfield 813, 3), (703, .iconst 0, 1), (704, .bipush 48, 2), (706, .bastore, 1), (707, .aload_n 0, 1), (708, .getfield 813, 3), (711, .iconst 1, 1), (712, .aload_n 0, 1), (713, .getfield 918, 3), (716, .iconst 2, 1), (717, .isub, 1), (718, .i2b, 1), (719, .bastore, 1), (720, .aload_n 0, 1), (721, .getfield 813, 3), (724, .aload_n 0, 1), (725, .getfield 918, 3), (728, .iload_n 3, 1), (729, .i2b, 1), (730, .bastore, 1), (731, .aload_n 0, 1), (732, .dup, 1), (733, .getfield 918, 3), (736, .iconst 1, 1), (737, .iadd, 1), (738, .putfield 918, 3), (741, .aload_n 0, 1), (742, .iload 4, 2), (744, .aload_n 0, 1), (745, .getfield 813, 3), (748, .aload_n 0, 1), (749, .getfield 918, 3), (752, .invokevirtual 915, 3), (755, .aload_n 0, 1), (756, .getfield 743, 3), (759, .iload 4, 2), (761, .iaload, 1), (762, .ireturn, 1)]
set_option maxRecDepth 100000 in
theorem daX16_sign : dk_all cX16_sign drX16_sign = true := by decide +kernel
theorem dX16_sign_0 : decode cX16_sign 0 = .ok (.aload_n 0, 1) := dk_get daX16_sign 0 (r := (0, .aload_n 0, 1)) rfl
theorem dX16_sign_1 : decode cX16_sign 1 = .ok (.aload_n 0, 1) := dk_get daX16_sign 1 (r := (1, .aload_n 0, 1)) rfl
theorem dX16_sign_2 : decode cX16_sign 2 = .ok (.getfield 865, 3) := dk_get daX16_sign 2 (r := (2, .getfield 865, 3)) rfl
theorem dX16_sign_5 : decode cX16_sign 5 = .ok (.ifCond .le 7, 3) := dk_get daX16_sign 3 (r := (5, .ifCond .le 7, 3)) rfl
theorem dX16_sign_8 : decode cX16_sign 8 = .ok (.iconst 1, 1) := dk_get daX16_sign 4 (r := (8, .iconst 1, 1)) rfl
theorem dX16_sign_9 : decode cX16_sign 9 = .ok (.goto 4, 3) := dk_get daX16_sign 5 (r := (9, .goto 4, 3)) rfl
theorem dX16_sign_12 : decode cX16_sign 12 = .ok (.iconst 0, 1) := dk_get daX16_sign 6 (r := (12, .iconst 0, 1)) rfl
theorem dX16_sign_13 : decode cX16_sign 13 = .ok (.iconst 2, 1) := dk_get daX16_sign 7 (r := (13, .iconst 2, 1)) rfl
theorem dX16_sign_14 : decode cX16_sign 14 = .ok (.invokevirtual 891, 3) := dk_get daX16_sign 8 (r := (14, .invokevirtual 891, 3)) rfl
theorem dX16_sign_17 : decode cX16_sign 17 = .ok (.ifCond .eq 40, 3) := dk_get daX16_sign 9 (r := (17, .ifCond .eq 40, 3)) rfl
theorem dX16_sign_20 : decode cX16_sign 20 = .ok (.aload_n 0, 1) := dk_get daX16_sign 10 (r := (20, .aload_n 0, 1)) rfl
theorem dX16_sign_21 : decode cX16_sign 21 = .ok (.aload_n 0, 1) := dk_get daX16_sign 11 (r := (21, .aload_n 0, 1)) rfl
theorem dX16_sign_22 : decode cX16_sign 22 = .ok (.iload_n 1, 1) := dk_get daX16_sign 12 (r := (22, .iload_n 1, 1)) rfl
theorem dX16_sign_23 : decode cX16_sign 23 = .ok (.invokevirtual 912, 3) := dk_get daX16_sign 13 (r := (23, .invokevirtual 912, 3)) rfl
theorem dX16_sign_26 : decode cX16_sign 26 = .ok (.ifCond .eq 23, 3) := dk_get daX16_sign 14 (r := (26, .ifCond .eq 23, 3)) rfl
theorem dX16_sign_29 : decode cX16_sign 29 = .ok (.iload_n 2, 1) := dk_get daX16_sign 15 (r := (29, .iload_n 2, 1)) rfl
theorem dX16_sign_30 : decode cX16_sign 30 = .ok (.iconst 1, 1) := dk_get daX16_sign 16 (r := (30, .iconst 1, 1)) rfl
theorem dX16_sign_31 : decode cX16_sign 31 = .ok (.if_icmp .lt 18, 3) := dk_get daX16_sign 17 (r := (31, .if_icmp .lt 18, 3)) rfl
theorem dX16_sign_34 : decode cX16_sign 34 = .ok (.iload_n 3, 1) := dk_get daX16_sign 18 (r := (34, .iload_n 3, 1)) rfl
theorem dX16_sign_35 : decode cX16_sign 35 = .ok (.ifCond .lt 14, 3) := dk_get daX16_sign 19 (r := (35, .ifCond .lt 14, 3)) rfl
theorem dX16_sign_38 : decode cX16_sign 38 = .ok (.iload_n 3, 1) := dk_get daX16_sign 20 (r := (38, .iload_n 3, 1)) rfl
theorem dX16_sign_39 : decode cX16_sign 39 = .ok (.sipush 255, 3) := dk_get daX16_sign 21 (r := (39, .sipush 255, 3)) rfl
theorem dX16_sign_42 : decode cX16_sign 42 = .ok (.if_icmp .gt 7, 3) := dk_get daX16_sign 22 (r := (42, .if_icmp .gt 7, 3)) rfl
theorem dX16_sign_45 : decode cX16_sign 45 = .ok (.iconst 1, 1) := dk_get daX16_sign 23 (r := (45, .iconst 1, 1)) rfl
theorem dX16_sign_46 : decode cX16_sign 46 = .ok (.goto 4, 3) := dk_get daX16_sign 24 (r := (46, .goto 4, 3)) rfl
theorem dX16_sign_49 : decode cX16_sign 49 = .ok (.iconst 0, 1) := dk_get daX16_sign 25 (r := (49, .iconst 0, 1)) rfl
theorem dX16_sign_50 : decode cX16_sign 50 = .ok (.iconst 1, 1) := dk_get daX16_sign 26 (r := (50, .iconst 1, 1)) rfl
theorem dX16_sign_51 : decode cX16_sign 51 = .ok (.invokevirtual 891, 3) := dk_get daX16_sign 27 (r := (51, .invokevirtual 891, 3)) rfl
theorem dX16_sign_54 : decode cX16_sign 54 = .ok (.ifCond .ne 5, 3) := dk_get daX16_sign 28 (r := (54, .ifCond .ne 5, 3)) rfl
theorem dX16_sign_57 : decode cX16_sign 57 = .ok (.iconst 0, 1) := dk_get daX16_sign 29 (r := (57, .iconst 0, 1)) rfl
theorem dX16_sign_58 : decode cX16_sign 58 = .ok (.ireturn, 1) := dk_get daX16_sign 30 (r := (58, .ireturn, 1)) rfl
theorem dX16_sign_59 : decode cX16_sign 59 = .ok (.bipush 6, 2) := dk_get daX16_sign 31 (r := (59, .bipush 6, 2)) rfl
theorem dX16_sign_61 : decode cX16_sign 61 = .ok (.aload_n 0, 1) := dk_get daX16_sign 32 (r := (61, .aload_n 0, 1)) rfl
theorem dX16_sign_62 : decode cX16_sign 62 = .ok (.getfield 865, 3) := dk_get daX16_sign 33 (r := (62, .getfield 865, 3)) rfl
theorem dX16_sign_65 : decode cX16_sign 65 = .ok (.iconst 1, 1) := dk_get daX16_sign 34 (r := (65, .iconst 1, 1)) rfl
theorem dX16_sign_66 : decode cX16_sign 66 = .ok (.isub, 1) := dk_get daX16_sign 35 (r := (66, .isub, 1)) rfl
theorem dX16_sign_67 : decode cX16_sign 67 = .ok (.imul, 1) := dk_get daX16_sign 36 (r := (67, .imul, 1)) rfl
theorem dX16_sign_68 : decode cX16_sign 68 = .ok (.iload_n 1, 1) := dk_get daX16_sign 37 (r := (68, .iload_n 1, 1)) rfl
theorem dX16_sign_69 : decode cX16_sign 69 = .ok (.iadd, 1) := dk_get daX16_sign 38 (r := (69, .iadd, 1)) rfl
theorem dX16_sign_70 : decode cX16_sign 70 = .ok (.istore 4, 2) := dk_get daX16_sign 39 (r := (70, .istore 4, 2)) rfl
theorem dX16_sign_72 : decode cX16_sign 72 = .ok (.aload_n 0, 1) := dk_get daX16_sign 40 (r := (72, .aload_n 0, 1)) rfl
theorem dX16_sign_73 : decode cX16_sign 73 = .ok (.aload_n 0, 1) := dk_get daX16_sign 41 (r := (73, .aload_n 0, 1)) rfl
theorem dX16_sign_74 : decode cX16_sign 74 = .ok (.getfield 743, 3) := dk_get daX16_sign 42 (r := (74, .getfield 743, 3)) rfl
theorem dX16_sign_77 : decode cX16_sign 77 = .ok (.iload 4, 2) := dk_get daX16_sign 43 (r := (77, .iload 4, 2)) rfl
theorem dX16_sign_79 : decode cX16_sign 79 = .ok (.iaload, 1) := dk_get daX16_sign 44 (r := (79, .iaload, 1)) rfl
theorem dX16_sign_80 : decode cX16_sign 80 = .ok (.sipush 500, 3) := dk_get daX16_sign 45 (r := (80, .sipush 500, 3)) rfl
theorem dX16_sign_83 : decode cX16_sign 83 = .ok (.if_icmp .gt 7, 3) := dk_get daX16_sign 46 (r := (83, .if_icmp .gt 7, 3)) rfl
theorem dX16_sign_86 : decode cX16_sign 86 = .ok (.iconst 1, 1) := dk_get daX16_sign 47 (r := (86, .iconst 1, 1)) rfl
theorem dX16_sign_87 : decode cX16_sign 87 = .ok (.goto 4, 3) := dk_get daX16_sign 48 (r := (87, .goto 4, 3)) rfl
theorem dX16_sign_90 : decode cX16_sign 90 = .ok (.iconst 0, 1) := dk_get daX16_sign 49 (r := (90, .iconst 0, 1)) rfl
theorem dX16_sign_91 : decode cX16_sign 91 = .ok (.iconst 3, 1) := dk_get daX16_sign 50 (r := (91, .iconst 3, 1)) rfl
theorem dX16_sign_92 : decode cX16_sign 92 = .ok (.invokevirtual 891, 3) := dk_get daX16_sign 51 (r := (92, .invokevirtual 891, 3)) rfl
theorem dX16_sign_95 : decode cX16_sign 95 = .ok (.ifCond .ne 5, 3) := dk_get daX16_sign 52 (r := (95, .ifCond .ne 5, 3)) rfl
theorem dX16_sign_98 : decode cX16_sign 98 = .ok (.iconst 0, 1) := dk_get daX16_sign 53 (r := (98, .iconst 0, 1)) rfl
theorem dX16_sign_99 : decode cX16_sign 99 = .ok (.ireturn, 1) := dk_get daX16_sign 54 (r := (99, .ireturn, 1)) rfl
theorem dX16_sign_100 : decode cX16_sign 100 = .ok (.aload_n 0, 1) := dk_get daX16_sign 55 (r := (100, .aload_n 0, 1)) rfl
theorem dX16_sign_101 : decode cX16_sign 101 = .ok (.getfield 865, 3) := dk_get daX16_sign 56 (r := (101, .getfield 865, 3)) rfl
theorem dX16_sign_104 : decode cX16_sign 104 = .ok (.iconst 1, 1) := dk_get daX16_sign 57 (r := (104, .iconst 1, 1)) rfl
theorem dX16_sign_105 : decode cX16_sign 105 = .ok (.isub, 1) := dk_get daX16_sign 58 (r := (105, .isub, 1)) rfl
theorem dX16_sign_106 : decode cX16_sign 106 = .ok (.istore 5, 2) := dk_get daX16_sign 59 (r := (106, .istore 5, 2)) rfl
theorem dX16_sign_108 : decode cX16_sign 108 = .ok (.aload_n 0, 1) := dk_get daX16_sign 60 (r := (108, .aload_n 0, 1)) rfl
theorem dX16_sign_109 : decode cX16_sign 109 = .ok (.iconst 0, 1) := dk_get daX16_sign 61 (r := (109, .iconst 0, 1)) rfl
theorem dX16_sign_110 : decode cX16_sign 110 = .ok (.putfield 723, 3) := dk_get daX16_sign 62 (r := (110, .putfield 723, 3)) rfl
theorem dX16_sign_113 : decode cX16_sign 113 = .ok (.aload_n 0, 1) := dk_get daX16_sign 63 (r := (113, .aload_n 0, 1)) rfl
theorem dX16_sign_114 : decode cX16_sign 114 = .ok (.iload 5, 2) := dk_get daX16_sign 64 (r := (114, .iload 5, 2)) rfl
theorem dX16_sign_116 : decode cX16_sign 116 = .ok (.invokevirtual 767, 3) := dk_get daX16_sign 65 (r := (116, .invokevirtual 767, 3)) rfl
theorem dX16_sign_119 : decode cX16_sign 119 = .ok (.aload_n 0, 1) := dk_get daX16_sign 66 (r := (119, .aload_n 0, 1)) rfl
theorem dX16_sign_120 : decode cX16_sign 120 = .ok (.getfield 810, 3) := dk_get daX16_sign 67 (r := (120, .getfield 810, 3)) rfl
theorem dX16_sign_123 : decode cX16_sign 123 = .ok (.aload_n 0, 1) := dk_get daX16_sign 68 (r := (123, .aload_n 0, 1)) rfl
theorem dX16_sign_124 : decode cX16_sign 124 = .ok (.getfield 720, 3) := dk_get daX16_sign 69 (r := (124, .getfield 720, 3)) rfl
theorem dX16_sign_127 : decode cX16_sign 127 = .ok (.putfield 275, 3) := dk_get daX16_sign 70 (r := (127, .putfield 275, 3)) rfl
theorem dX16_sign_130 : decode cX16_sign 130 = .ok (.aload_n 0, 1) := dk_get daX16_sign 71 (r := (130, .aload_n 0, 1)) rfl
theorem dX16_sign_131 : decode cX16_sign 131 = .ok (.getfield 810, 3) := dk_get daX16_sign 72 (r := (131, .getfield 810, 3)) rfl
theorem dX16_sign_134 : decode cX16_sign 134 = .ok (.getfield 290, 3) := dk_get daX16_sign 73 (r := (134, .getfield 290, 3)) rfl
theorem dX16_sign_137 : decode cX16_sign 137 = .ok (.iconst 0, 1) := dk_get daX16_sign 74 (r := (137, .iconst 0, 1)) rfl
theorem dX16_sign_138 : decode cX16_sign 138 = .ok (.iconst 0, 1) := dk_get daX16_sign 75 (r := (138, .iconst 0, 1)) rfl
theorem dX16_sign_139 : decode cX16_sign 139 = .ok (.iastore, 1) := dk_get daX16_sign 76 (r := (139, .iastore, 1)) rfl
theorem dX16_sign_140 : decode cX16_sign 140 = .ok (.aload_n 0, 1) := dk_get daX16_sign 77 (r := (140, .aload_n 0, 1)) rfl
theorem dX16_sign_141 : decode cX16_sign 141 = .ok (.getfield 810, 3) := dk_get daX16_sign 78 (r := (141, .getfield 810, 3)) rfl
theorem dX16_sign_144 : decode cX16_sign 144 = .ok (.getfield 313, 3) := dk_get daX16_sign 79 (r := (144, .getfield 313, 3)) rfl
theorem dX16_sign_147 : decode cX16_sign 147 = .ok (.iconst 0, 1) := dk_get daX16_sign 80 (r := (147, .iconst 0, 1)) rfl
theorem dX16_sign_148 : decode cX16_sign 148 = .ok (.aload_n 0, 1) := dk_get daX16_sign 81 (r := (148, .aload_n 0, 1)) rfl
theorem dX16_sign_149 : decode cX16_sign 149 = .ok (.getfield 723, 3) := dk_get daX16_sign 82 (r := (149, .getfield 723, 3)) rfl
theorem dX16_sign_152 : decode cX16_sign 152 = .ok (.iastore, 1) := dk_get daX16_sign 83 (r := (152, .iastore, 1)) rfl
theorem dX16_sign_153 : decode cX16_sign 153 = .ok (.aload_n 0, 1) := dk_get daX16_sign 84 (r := (153, .aload_n 0, 1)) rfl
theorem dX16_sign_154 : decode cX16_sign 154 = .ok (.getfield 810, 3) := dk_get daX16_sign 85 (r := (154, .getfield 810, 3)) rfl
theorem dX16_sign_157 : decode cX16_sign 157 = .ok (.getfield 297, 3) := dk_get daX16_sign 86 (r := (157, .getfield 297, 3)) rfl
theorem dX16_sign_160 : decode cX16_sign 160 = .ok (.iconst 0, 1) := dk_get daX16_sign 87 (r := (160, .iconst 0, 1)) rfl
theorem dX16_sign_161 : decode cX16_sign 161 = .ok (.aload_n 0, 1) := dk_get daX16_sign 88 (r := (161, .aload_n 0, 1)) rfl
theorem dX16_sign_162 : decode cX16_sign 162 = .ok (.getfield 732, 3) := dk_get daX16_sign 89 (r := (162, .getfield 732, 3)) rfl
theorem dX16_sign_165 : decode cX16_sign 165 = .ok (.iload 5, 2) := dk_get daX16_sign 90 (r := (165, .iload 5, 2)) rfl
theorem dX16_sign_167 : decode cX16_sign 167 = .ok (.iaload, 1) := dk_get daX16_sign 91 (r := (167, .iaload, 1)) rfl
theorem dX16_sign_168 : decode cX16_sign 168 = .ok (.iastore, 1) := dk_get daX16_sign 92 (r := (168, .iastore, 1)) rfl
theorem dX16_sign_169 : decode cX16_sign 169 = .ok (.aload_n 0, 1) := dk_get daX16_sign 93 (r := (169, .aload_n 0, 1)) rfl
theorem dX16_sign_170 : decode cX16_sign 170 = .ok (.getfield 810, 3) := dk_get daX16_sign 94 (r := (170, .getfield 810, 3)) rfl
theorem dX16_sign_173 : decode cX16_sign 173 = .ok (.getfield 300, 3) := dk_get daX16_sign 95 (r := (173, .getfield 300, 3)) rfl
theorem dX16_sign_176 : decode cX16_sign 176 = .ok (.iconst 0, 1) := dk_get daX16_sign 96 (r := (176, .iconst 0, 1)) rfl
theorem dX16_sign_177 : decode cX16_sign 177 = .ok (.iconst 5, 1) := dk_get daX16_sign 97 (r := (177, .iconst 5, 1)) rfl
theorem dX16_sign_178 : decode cX16_sign 178 = .ok (.iastore, 1) := dk_get daX16_sign 98 (r := (178, .iastore, 1)) rfl
theorem dX16_sign_179 : decode cX16_sign 179 = .ok (.aload_n 0, 1) := dk_get daX16_sign 99 (r := (179, .aload_n 0, 1)) rfl
theorem dX16_sign_180 : decode cX16_sign 180 = .ok (.getfield 810, 3) := dk_get daX16_sign 100 (r := (180, .getfield 810, 3)) rfl
theorem dX16_sign_183 : decode cX16_sign 183 = .ok (.getfield 307, 3) := dk_get daX16_sign 101 (r := (183, .getfield 307, 3)) rfl
theorem dX16_sign_186 : decode cX16_sign 186 = .ok (.iconst 0, 1) := dk_get daX16_sign 102 (r := (186, .iconst 0, 1)) rfl
theorem dX16_sign_187 : decode cX16_sign 187 = .ok (.aload_n 0, 1) := dk_get daX16_sign 103 (r := (187, .aload_n 0, 1)) rfl
theorem dX16_sign_188 : decode cX16_sign 188 = .ok (.getfield 752, 3) := dk_get daX16_sign 104 (r := (188, .getfield 752, 3)) rfl
theorem dX16_sign_191 : decode cX16_sign 191 = .ok (.iload 5, 2) := dk_get daX16_sign 105 (r := (191, .iload 5, 2)) rfl
theorem dX16_sign_193 : decode cX16_sign 193 = .ok (.iaload, 1) := dk_get daX16_sign 106 (r := (193, .iaload, 1)) rfl
theorem dX16_sign_194 : decode cX16_sign 194 = .ok (.iastore, 1) := dk_get daX16_sign 107 (r := (194, .iastore, 1)) rfl
theorem dX16_sign_195 : decode cX16_sign 195 = .ok (.iconst 5, 1) := dk_get daX16_sign 108 (r := (195, .iconst 5, 1)) rfl
theorem dX16_sign_196 : decode cX16_sign 196 = .ok (.istore 6, 2) := dk_get daX16_sign 109 (r := (196, .istore 6, 2)) rfl
theorem dX16_sign_198 : decode cX16_sign 198 = .ok (.iconst 0, 1) := dk_get daX16_sign 110 (r := (198, .iconst 0, 1)) rfl
theorem dX16_sign_199 : decode cX16_sign 199 = .ok (.istore 7, 2) := dk_get daX16_sign 111 (r := (199, .istore 7, 2)) rfl
theorem dX16_sign_201 : decode cX16_sign 201 = .ok (.iload 7, 2) := dk_get daX16_sign 112 (r := (201, .iload 7, 2)) rfl
theorem dX16_sign_203 : decode cX16_sign 203 = .ok (.aload_n 0, 1) := dk_get daX16_sign 113 (r := (203, .aload_n 0, 1)) rfl
theorem dX16_sign_204 : decode cX16_sign 204 = .ok (.getfield 732, 3) := dk_get daX16_sign 114 (r := (204, .getfield 732, 3)) rfl
theorem dX16_sign_207 : decode cX16_sign 207 = .ok (.iload 5, 2) := dk_get daX16_sign 115 (r := (207, .iload 5, 2)) rfl
theorem dX16_sign_209 : decode cX16_sign 209 = .ok (.iaload, 1) := dk_get daX16_sign 116 (r := (209, .iaload, 1)) rfl
theorem dX16_sign_210 : decode cX16_sign 210 = .ok (.if_icmp .ge 26, 3) := dk_get daX16_sign 117 (r := (210, .if_icmp .ge 26, 3)) rfl
theorem dX16_sign_213 : decode cX16_sign 213 = .ok (.aload_n 0, 1) := dk_get daX16_sign 118 (r := (213, .aload_n 0, 1)) rfl
theorem dX16_sign_214 : decode cX16_sign 214 = .ok (.aload_n 0, 1) := dk_get daX16_sign 119 (r := (214, .aload_n 0, 1)) rfl
theorem dX16_sign_215 : decode cX16_sign 215 = .ok (.getfield 720, 3) := dk_get daX16_sign 120 (r := (215, .getfield 720, 3)) rfl
theorem dX16_sign_218 : decode cX16_sign 218 = .ok (.iload 6, 2) := dk_get daX16_sign 121 (r := (218, .iload 6, 2)) rfl
theorem dX16_sign_220 : decode cX16_sign 220 = .ok (.bipush 36, 2) := dk_get daX16_sign 122 (r := (220, .bipush 36, 2)) rfl
theorem dX16_sign_222 : decode cX16_sign 222 = .ok (.iadd, 1) := dk_get daX16_sign 123 (r := (222, .iadd, 1)) rfl
theorem dX16_sign_223 : decode cX16_sign 223 = .ok (.invokevirtual 328, 3) := dk_get daX16_sign 124 (r := (223, .invokevirtual 328, 3)) rfl
theorem dX16_sign_226 : decode cX16_sign 226 = .ok (.iconst 4, 1) := dk_get daX16_sign 125 (r := (226, .iconst 4, 1)) rfl
theorem dX16_sign_227 : decode cX16_sign 227 = .ok (.iadd, 1) := dk_get daX16_sign 126 (r := (227, .iadd, 1)) rfl
theorem dX16_sign_228 : decode cX16_sign 228 = .ok (.istore 6, 2) := dk_get daX16_sign 127 (r := (228, .istore 6, 2)) rfl
theorem dX16_sign_230 : decode cX16_sign 230 = .ok (.iinc 7 1, 3) := dk_get daX16_sign 128 (r := (230, .iinc 7 1, 3)) rfl
theorem dX16_sign_233 : decode cX16_sign 233 = .ok (.goto (-32), 3) := dk_get daX16_sign 129 (r := (233, .goto (-32), 3)) rfl
theorem dX16_sign_236 : decode cX16_sign 236 = .ok (.aload_n 0, 1) := dk_get daX16_sign 130 (r := (236, .aload_n 0, 1)) rfl
theorem dX16_sign_237 : decode cX16_sign 237 = .ok (.getfield 810, 3) := dk_get daX16_sign 131 (r := (237, .getfield 810, 3)) rfl
theorem dX16_sign_240 : decode cX16_sign 240 = .ok (.getfield 310, 3) := dk_get daX16_sign 132 (r := (240, .getfield 310, 3)) rfl
theorem dX16_sign_243 : decode cX16_sign 243 = .ok (.iconst 0, 1) := dk_get daX16_sign 133 (r := (243, .iconst 0, 1)) rfl
theorem dX16_sign_244 : decode cX16_sign 244 = .ok (.iload 6, 2) := dk_get daX16_sign 134 (r := (244, .iload 6, 2)) rfl
theorem dX16_sign_246 : decode cX16_sign 246 = .ok (.iconst 1, 1) := dk_get daX16_sign 135 (r := (246, .iconst 1, 1)) rfl
theorem dX16_sign_247 : decode cX16_sign 247 = .ok (.iadd, 1) := dk_get daX16_sign 136 (r := (247, .iadd, 1)) rfl
theorem dX16_sign_248 : decode cX16_sign 248 = .ok (.iastore, 1) := dk_get daX16_sign 137 (r := (248, .iastore, 1)) rfl
theorem dX16_sign_249 : decode cX16_sign 249 = .ok (.aload_n 0, 1) := dk_get daX16_sign 138 (r := (249, .aload_n 0, 1)) rfl
theorem dX16_sign_250 : decode cX16_sign 250 = .ok (.aload_n 0, 1) := dk_get daX16_sign 139 (r := (250, .aload_n 0, 1)) rfl
theorem dX16_sign_251 : decode cX16_sign 251 = .ok (.getfield 801, 3) := dk_get daX16_sign 140 (r := (251, .getfield 801, 3)) rfl
theorem dX16_sign_254 : decode cX16_sign 254 = .ok (.iconst 0, 1) := dk_get daX16_sign 141 (r := (254, .iconst 0, 1)) rfl
theorem dX16_sign_255 : decode cX16_sign 255 = .ok (.aload_n 0, 1) := dk_get daX16_sign 142 (r := (255, .aload_n 0, 1)) rfl
theorem dX16_sign_256 : decode cX16_sign 256 = .ok (.getfield 862, 3) := dk_get daX16_sign 143 (r := (256, .getfield 862, 3)) rfl
theorem dX16_sign_259 : decode cX16_sign 259 = .ok (.invokevirtual 690, 3) := dk_get daX16_sign 144 (r := (259, .invokevirtual 690, 3)) rfl
theorem dX16_sign_262 : decode cX16_sign 262 = .ok (.aload_n 0, 1) := dk_get daX16_sign 145 (r := (262, .aload_n 0, 1)) rfl
theorem dX16_sign_263 : decode cX16_sign 263 = .ok (.iconst 0, 1) := dk_get daX16_sign 146 (r := (263, .iconst 0, 1)) rfl
theorem dX16_sign_264 : decode cX16_sign 264 = .ok (.putfield 862, 3) := dk_get daX16_sign 147 (r := (264, .putfield 862, 3)) rfl
theorem dX16_sign_267 : decode cX16_sign 267 = .ok (.aload_n 0, 1) := dk_get daX16_sign 148 (r := (267, .aload_n 0, 1)) rfl
theorem dX16_sign_268 : decode cX16_sign 268 = .ok (.aload_n 0, 1) := dk_get daX16_sign 149 (r := (268, .aload_n 0, 1)) rfl
theorem dX16_sign_269 : decode cX16_sign 269 = .ok (.getfield 810, 3) := dk_get daX16_sign 150 (r := (269, .getfield 810, 3)) rfl
theorem dX16_sign_272 : decode cX16_sign 272 = .ok (.iconst 0, 1) := dk_get daX16_sign 151 (r := (272, .iconst 0, 1)) rfl
theorem dX16_sign_273 : decode cX16_sign 273 = .ok (.iload_n 1, 1) := dk_get daX16_sign 152 (r := (273, .iload_n 1, 1)) rfl
theorem dX16_sign_274 : decode cX16_sign 274 = .ok (.iload_n 3, 1) := dk_get daX16_sign 153 (r := (274, .iload_n 3, 1)) rfl
theorem dX16_sign_275 : decode cX16_sign 275 = .ok (.invokevirtual 682, 3) := dk_get daX16_sign 154 (r := (275, .invokevirtual 682, 3)) rfl
theorem dX16_sign_278 : decode cX16_sign 278 = .ok (.iconst 0, 1) := dk_get daX16_sign 155 (r := (278, .iconst 0, 1)) rfl
theorem dX16_sign_279 : decode cX16_sign 279 = .ok (.istore 7, 2) := dk_get daX16_sign 156 (r := (279, .istore 7, 2)) rfl
theorem dX16_sign_281 : decode cX16_sign 281 = .ok (.iload 7, 2) := dk_get daX16_sign 157 (r := (281, .iload 7, 2)) rfl
theorem dX16_sign_283 : decode cX16_sign 283 = .ok (.bipush 64, 2) := dk_get daX16_sign 158 (r := (283, .bipush 64, 2)) rfl
theorem dX16_sign_285 : decode cX16_sign 285 = .ok (.if_icmp .ge 58, 3) := dk_get daX16_sign 159 (r := (285, .if_icmp .ge 58, 3)) rfl
theorem dX16_sign_288 : decode cX16_sign 288 = .ok (.aload_n 0, 1) := dk_get daX16_sign 160 (r := (288, .aload_n 0, 1)) rfl
theorem dX16_sign_289 : decode cX16_sign 289 = .ok (.getfield 819, 3) := dk_get daX16_sign 161 (r := (289, .getfield 819, 3)) rfl
theorem dX16_sign_292 : decode cX16_sign 292 = .ok (.iload 7, 2) := dk_get daX16_sign 162 (r := (292, .iload 7, 2)) rfl
theorem dX16_sign_294 : decode cX16_sign 294 = .ok (.iload 7, 2) := dk_get daX16_sign 163 (r := (294, .iload 7, 2)) rfl
theorem dX16_sign_296 : decode cX16_sign 296 = .ok (.bipush 28, 2) := dk_get daX16_sign 164 (r := (296, .bipush 28, 2)) rfl
theorem dX16_sign_298 : decode cX16_sign 298 = .ok (.if_icmp .ge 7, 3) := dk_get daX16_sign 165 (r := (298, .if_icmp .ge 7, 3)) rfl
theorem dX16_sign_301 : decode cX16_sign 301 = .ok (.iconst 0, 1) := dk_get daX16_sign 166 (r := (301, .iconst 0, 1)) rfl
theorem dX16_sign_302 : decode cX16_sign 302 = .ok (.goto 33, 3) := dk_get daX16_sign 167 (r := (302, .goto 33, 3)) rfl
theorem dX16_sign_305 : decode cX16_sign 305 = .ok (.iload 7, 2) := dk_get daX16_sign 168 (r := (305, .iload 7, 2)) rfl
theorem dX16_sign_307 : decode cX16_sign 307 = .ok (.bipush 32, 2) := dk_get daX16_sign 169 (r := (307, .bipush 32, 2)) rfl
theorem dX16_sign_309 : decode cX16_sign 309 = .ok (.if_icmp .ge 16, 3) := dk_get daX16_sign 170 (r := (309, .if_icmp .ge 16, 3)) rfl
theorem dX16_sign_312 : decode cX16_sign 312 = .ok (.iload_n 2, 1) := dk_get daX16_sign 171 (r := (312, .iload_n 2, 1)) rfl
theorem dX16_sign_313 : decode cX16_sign 313 = .ok (.bipush 8, 2) := dk_get daX16_sign 172 (r := (313, .bipush 8, 2)) rfl
theorem dX16_sign_315 : decode cX16_sign 315 = .ok (.bipush 31, 2) := dk_get daX16_sign 173 (r := (315, .bipush 31, 2)) rfl
theorem dX16_sign_317 : decode cX16_sign 317 = .ok (.iload 7, 2) := dk_get daX16_sign 174 (r := (317, .iload 7, 2)) rfl
theorem dX16_sign_319 : decode cX16_sign 319 = .ok (.isub, 1) := dk_get daX16_sign 175 (r := (319, .isub, 1)) rfl
theorem dX16_sign_320 : decode cX16_sign 320 = .ok (.imul, 1) := dk_get daX16_sign 176 (r := (320, .imul, 1)) rfl
theorem dX16_sign_321 : decode cX16_sign 321 = .ok (.iushr, 1) := dk_get daX16_sign 177 (r := (321, .iushr, 1)) rfl
theorem dX16_sign_322 : decode cX16_sign 322 = .ok (.goto 13, 3) := dk_get daX16_sign 178 (r := (322, .goto 13, 3)) rfl
theorem dX16_sign_325 : decode cX16_sign 325 = .ok (.aload_n 0, 1) := dk_get daX16_sign 179 (r := (325, .aload_n 0, 1)) rfl
theorem dX16_sign_326 : decode cX16_sign 326 = .ok (.getfield 213, 3) := dk_get daX16_sign 180 (r := (326, .getfield 213, 3)) rfl
theorem dX16_sign_329 : decode cX16_sign 329 = .ok (.iload 7, 2) := dk_get daX16_sign 181 (r := (329, .iload 7, 2)) rfl
theorem dX16_sign_331 : decode cX16_sign 331 = .ok (.bipush 32, 2) := dk_get daX16_sign 182 (r := (331, .bipush 32, 2)) rfl
theorem dX16_sign_333 : decode cX16_sign 333 = .ok (.isub, 1) := dk_get daX16_sign 183 (r := (333, .isub, 1)) rfl
theorem dX16_sign_334 : decode cX16_sign 334 = .ok (.baload, 1) := dk_get daX16_sign 184 (r := (334, .baload, 1)) rfl
theorem dX16_sign_335 : decode cX16_sign 335 = .ok (.i2b, 1) := dk_get daX16_sign 185 (r := (335, .i2b, 1)) rfl
theorem dX16_sign_336 : decode cX16_sign 336 = .ok (.bastore, 1) := dk_get daX16_sign 186 (r := (336, .bastore, 1)) rfl
theorem dX16_sign_337 : decode cX16_sign 337 = .ok (.iinc 7 1, 3) := dk_get daX16_sign 187 (r := (337, .iinc 7 1, 3)) rfl
theorem dX16_sign_340 : decode cX16_sign 340 = .ok (.goto (-59), 3) := dk_get daX16_sign 188 (r := (340, .goto (-59), 3)) rfl
theorem dX16_sign_343 : decode cX16_sign 343 = .ok (.aload_n 0, 1) := dk_get daX16_sign 189 (r := (343, .aload_n 0, 1)) rfl
theorem dX16_sign_344 : decode cX16_sign 344 = .ok (.aload_n 0, 1) := dk_get daX16_sign 190 (r := (344, .aload_n 0, 1)) rfl
theorem dX16_sign_345 : decode cX16_sign 345 = .ok (.getfield 819, 3) := dk_get daX16_sign 191 (r := (345, .getfield 819, 3)) rfl
theorem dX16_sign_348 : decode cX16_sign 348 = .ok (.iconst 0, 1) := dk_get daX16_sign 192 (r := (348, .iconst 0, 1)) rfl
theorem dX16_sign_349 : decode cX16_sign 349 = .ok (.bipush 64, 2) := dk_get daX16_sign 193 (r := (349, .bipush 64, 2)) rfl
theorem dX16_sign_351 : decode cX16_sign 351 = .ok (.aload_n 0, 1) := dk_get daX16_sign 194 (r := (351, .aload_n 0, 1)) rfl
theorem dX16_sign_352 : decode cX16_sign 352 = .ok (.getfield 80, 3) := dk_get daX16_sign 195 (r := (352, .getfield 80, 3)) rfl
theorem dX16_sign_355 : decode cX16_sign 355 = .ok (.iconst 0, 1) := dk_get daX16_sign 196 (r := (355, .iconst 0, 1)) rfl
theorem dX16_sign_356 : decode cX16_sign 356 = .ok (.invokevirtual 83, 3) := dk_get daX16_sign 197 (r := (356, .invokevirtual 83, 3)) rfl
theorem dX16_sign_359 : decode cX16_sign 359 = .ok (.aload_n 0, 1) := dk_get daX16_sign 198 (r := (359, .aload_n 0, 1)) rfl
theorem dX16_sign_360 : decode cX16_sign 360 = .ok (.getfield 80, 3) := dk_get daX16_sign 199 (r := (360, .getfield 80, 3)) rfl
theorem dX16_sign_363 : decode cX16_sign 363 = .ok (.iconst 0, 1) := dk_get daX16_sign 200 (r := (363, .iconst 0, 1)) rfl
theorem dX16_sign_364 : decode cX16_sign 364 = .ok (.iconst 1, 1) := dk_get daX16_sign 201 (r := (364, .iconst 1, 1)) rfl
theorem dX16_sign_365 : decode cX16_sign 365 = .ok (.aload_n 0, 1) := dk_get daX16_sign 202 (r := (365, .aload_n 0, 1)) rfl
theorem dX16_sign_366 : decode cX16_sign 366 = .ok (.getfield 216, 3) := dk_get daX16_sign 203 (r := (366, .getfield 216, 3)) rfl
theorem dX16_sign_369 : decode cX16_sign 369 = .ok (.invokestatic 158, 3) := dk_get daX16_sign 204 (r := (369, .invokestatic 158, 3)) rfl
theorem dX16_sign_372 : decode cX16_sign 372 = .ok (.aload_n 0, 1) := dk_get daX16_sign 205 (r := (372, .aload_n 0, 1)) rfl
theorem dX16_sign_373 : decode cX16_sign 373 = .ok (.getfield 216, 3) := dk_get daX16_sign 206 (r := (373, .getfield 216, 3)) rfl
theorem dX16_sign_376 : decode cX16_sign 376 = .ok (.aload_n 0, 1) := dk_get daX16_sign 207 (r := (376, .aload_n 0, 1)) rfl
theorem dX16_sign_377 : decode cX16_sign 377 = .ok (.getfield 192, 3) := dk_get daX16_sign 208 (r := (377, .getfield 192, 3)) rfl
theorem dX16_sign_380 : decode cX16_sign 380 = .ok (.getfield 162, 3) := dk_get daX16_sign 209 (r := (380, .getfield 162, 3)) rfl
theorem dX16_sign_383 : decode cX16_sign 383 = .ok (.invokestatic 165, 3) := dk_get daX16_sign 210 (r := (383, .invokestatic 165, 3)) rfl
theorem dX16_sign_386 : decode cX16_sign 386 = .ok (.ifCond .lt 25, 3) := dk_get daX16_sign 211 (r := (386, .ifCond .lt 25, 3)) rfl
theorem dX16_sign_389 : decode cX16_sign 389 = .ok (.aload_n 0, 1) := dk_get daX16_sign 212 (r := (389, .aload_n 0, 1)) rfl
theorem dX16_sign_390 : decode cX16_sign 390 = .ok (.getfield 216, 3) := dk_get daX16_sign 213 (r := (390, .getfield 216, 3)) rfl
theorem dX16_sign_393 : decode cX16_sign 393 = .ok (.aload_n 0, 1) := dk_get daX16_sign 214 (r := (393, .aload_n 0, 1)) rfl
theorem dX16_sign_394 : decode cX16_sign 394 = .ok (.getfield 192, 3) := dk_get daX16_sign 215 (r := (394, .getfield 192, 3)) rfl
theorem dX16_sign_397 : decode cX16_sign 397 = .ok (.getfield 162, 3) := dk_get daX16_sign 216 (r := (397, .getfield 162, 3)) rfl
theorem dX16_sign_400 : decode cX16_sign 400 = .ok (.aload_n 0, 1) := dk_get daX16_sign 217 (r := (400, .aload_n 0, 1)) rfl
theorem dX16_sign_401 : decode cX16_sign 401 = .ok (.getfield 216, 3) := dk_get daX16_sign 218 (r := (401, .getfield 216, 3)) rfl
theorem dX16_sign_404 : decode cX16_sign 404 = .ok (.invokestatic 241, 3) := dk_get daX16_sign 219 (r := (404, .invokestatic 241, 3)) rfl
theorem dX16_sign_407 : decode cX16_sign 407 = .ok (.pop2, 1) := dk_get daX16_sign 220 (r := (407, .pop2, 1)) rfl
theorem dX16_sign_408 : decode cX16_sign 408 = .ok (.goto (-36), 3) := dk_get daX16_sign 221 (r := (408, .goto (-36), 3)) rfl
theorem dX16_sign_411 : decode cX16_sign 411 = .ok (.aload_n 0, 1) := dk_get daX16_sign 222 (r := (411, .aload_n 0, 1)) rfl
theorem dX16_sign_412 : decode cX16_sign 412 = .ok (.aload_n 0, 1) := dk_get daX16_sign 223 (r := (412, .aload_n 0, 1)) rfl
theorem dX16_sign_413 : decode cX16_sign 413 = .ok (.getfield 216, 3) := dk_get daX16_sign 224 (r := (413, .getfield 216, 3)) rfl
theorem dX16_sign_416 : decode cX16_sign 416 = .ok (.aload_n 0, 1) := dk_get daX16_sign 225 (r := (416, .aload_n 0, 1)) rfl
theorem dX16_sign_417 : decode cX16_sign 417 = .ok (.getfield 225, 3) := dk_get daX16_sign 226 (r := (417, .getfield 225, 3)) rfl
theorem dX16_sign_420 : decode cX16_sign 420 = .ok (.aload_n 0, 1) := dk_get daX16_sign 227 (r := (420, .aload_n 0, 1)) rfl
theorem dX16_sign_421 : decode cX16_sign 421 = .ok (.getfield 228, 3) := dk_get daX16_sign 228 (r := (421, .getfield 228, 3)) rfl
theorem dX16_sign_424 : decode cX16_sign 424 = .ok (.invokevirtual 231, 3) := dk_get daX16_sign 229 (r := (424, .invokevirtual 231, 3)) rfl
theorem dX16_sign_427 : decode cX16_sign 427 = .ok (.aload_n 0, 1) := dk_get daX16_sign 230 (r := (427, .aload_n 0, 1)) rfl
theorem dX16_sign_428 : decode cX16_sign 428 = .ok (.aload_n 0, 1) := dk_get daX16_sign 231 (r := (428, .aload_n 0, 1)) rfl
theorem dX16_sign_429 : decode cX16_sign 429 = .ok (.getfield 228, 3) := dk_get daX16_sign 232 (r := (429, .getfield 228, 3)) rfl
theorem dX16_sign_432 : decode cX16_sign 432 = .ok (.aload_n 0, 1) := dk_get daX16_sign 233 (r := (432, .aload_n 0, 1)) rfl
theorem dX16_sign_433 : decode cX16_sign 433 = .ok (.getfield 155, 3) := dk_get daX16_sign 234 (r := (433, .getfield 155, 3)) rfl
theorem dX16_sign_436 : decode cX16_sign 436 = .ok (.aload_n 0, 1) := dk_get daX16_sign 235 (r := (436, .aload_n 0, 1)) rfl
theorem dX16_sign_437 : decode cX16_sign 437 = .ok (.getfield 185, 3) := dk_get daX16_sign 236 (r := (437, .getfield 185, 3)) rfl
theorem dX16_sign_440 : decode cX16_sign 440 = .ok (.invokevirtual 237, 3) := dk_get daX16_sign 237 (r := (440, .invokevirtual 237, 3)) rfl
theorem dX16_sign_443 : decode cX16_sign 443 = .ok (.aload_n 0, 1) := dk_get daX16_sign 238 (r := (443, .aload_n 0, 1)) rfl
theorem dX16_sign_444 : decode cX16_sign 444 = .ok (.getfield 155, 3) := dk_get daX16_sign 239 (r := (444, .getfield 155, 3)) rfl
theorem dX16_sign_447 : decode cX16_sign 447 = .ok (.aload_n 0, 1) := dk_get daX16_sign 240 (r := (447, .aload_n 0, 1)) rfl
theorem dX16_sign_448 : decode cX16_sign 448 = .ok (.getfield 192, 3) := dk_get daX16_sign 241 (r := (448, .getfield 192, 3)) rfl
theorem dX16_sign_451 : decode cX16_sign 451 = .ok (.getfield 162, 3) := dk_get daX16_sign 242 (r := (451, .getfield 162, 3)) rfl
theorem dX16_sign_454 : decode cX16_sign 454 = .ok (.invokestatic 165, 3) := dk_get daX16_sign 243 (r := (454, .invokestatic 165, 3)) rfl
theorem dX16_sign_457 : decode cX16_sign 457 = .ok (.ifCond .lt 25, 3) := dk_get daX16_sign 244 (r := (457, .ifCond .lt 25, 3)) rfl
theorem dX16_sign_460 : decode cX16_sign 460 = .ok (.aload_n 0, 1) := dk_get daX16_sign 245 (r := (460, .aload_n 0, 1)) rfl
theorem dX16_sign_461 : decode cX16_sign 461 = .ok (.getfield 155, 3) := dk_get daX16_sign 246 (r := (461, .getfield 155, 3)) rfl
theorem dX16_sign_464 : decode cX16_sign 464 = .ok (.aload_n 0, 1) := dk_get daX16_sign 247 (r := (464, .aload_n 0, 1)) rfl
theorem dX16_sign_465 : decode cX16_sign 465 = .ok (.getfield 192, 3) := dk_get daX16_sign 248 (r := (465, .getfield 192, 3)) rfl
theorem dX16_sign_468 : decode cX16_sign 468 = .ok (.getfield 162, 3) := dk_get daX16_sign 249 (r := (468, .getfield 162, 3)) rfl
theorem dX16_sign_471 : decode cX16_sign 471 = .ok (.aload_n 0, 1) := dk_get daX16_sign 250 (r := (471, .aload_n 0, 1)) rfl
theorem dX16_sign_472 : decode cX16_sign 472 = .ok (.getfield 155, 3) := dk_get daX16_sign 251 (r := (472, .getfield 155, 3)) rfl
theorem dX16_sign_475 : decode cX16_sign 475 = .ok (.invokestatic 241, 3) := dk_get daX16_sign 252 (r := (475, .invokestatic 241, 3)) rfl
theorem dX16_sign_478 : decode cX16_sign 478 = .ok (.pop2, 1) := dk_get daX16_sign 253 (r := (478, .pop2, 1)) rfl
theorem dX16_sign_479 : decode cX16_sign 479 = .ok (.goto (-36), 3) := dk_get daX16_sign 254 (r := (479, .goto (-36), 3)) rfl
theorem dX16_sign_482 : decode cX16_sign 482 = .ok (.aload_n 0, 1) := dk_get daX16_sign 255 (r := (482, .aload_n 0, 1)) rfl
theorem dX16_sign_483 : decode cX16_sign 483 = .ok (.getfield 192, 3) := dk_get daX16_sign 256 (r := (483, .getfield 192, 3)) rfl
theorem dX16_sign_486 : decode cX16_sign 486 = .ok (.aload_n 0, 1) := dk_get daX16_sign 257 (r := (486, .aload_n 0, 1)) rfl
theorem dX16_sign_487 : decode cX16_sign 487 = .ok (.getfield 216, 3) := dk_get daX16_sign 258 (r := (487, .getfield 216, 3)) rfl
theorem dX16_sign_490 : decode cX16_sign 490 = .ok (.aload_n 0, 1) := dk_get daX16_sign 259 (r := (490, .aload_n 0, 1)) rfl
theorem dX16_sign_491 : decode cX16_sign 491 = .ok (.getfield 219, 3) := dk_get daX16_sign 260 (r := (491, .getfield 219, 3)) rfl
theorem dX16_sign_494 : decode cX16_sign 494 = .ok (.invokevirtual 173, 3) := dk_get daX16_sign 261 (r := (494, .invokevirtual 173, 3)) rfl
theorem dX16_sign_497 : decode cX16_sign 497 = .ok (.aload_n 0, 1) := dk_get daX16_sign 262 (r := (497, .aload_n 0, 1)) rfl
theorem dX16_sign_498 : decode cX16_sign 498 = .ok (.getfield 192, 3) := dk_get daX16_sign 263 (r := (498, .getfield 192, 3)) rfl
theorem dX16_sign_501 : decode cX16_sign 501 = .ok (.aload_n 0, 1) := dk_get daX16_sign 264 (r := (501, .aload_n 0, 1)) rfl
theorem dX16_sign_502 : decode cX16_sign 502 = .ok (.getfield 219, 3) := dk_get daX16_sign 265 (r := (502, .getfield 219, 3)) rfl
theorem dX16_sign_505 : decode cX16_sign 505 = .ok (.bipush (-2), 2) := dk_get daX16_sign 266 (r := (505, .bipush (-2), 2)) rfl
theorem dX16_sign_507 : decode cX16_sign 507 = .ok (.iconst 0, 1) := dk_get daX16_sign 267 (r := (507, .iconst 0, 1)) rfl
theorem dX16_sign_508 : decode cX16_sign 508 = .ok (.aload_n 0, 1) := dk_get daX16_sign 268 (r := (508, .aload_n 0, 1)) rfl
theorem dX16_sign_509 : decode cX16_sign 509 = .ok (.getfield 219, 3) := dk_get daX16_sign 269 (r := (509, .getfield 219, 3)) rfl
theorem dX16_sign_512 : decode cX16_sign 512 = .ok (.invokevirtual 147, 3) := dk_get daX16_sign 270 (r := (512, .invokevirtual 147, 3)) rfl
theorem dX16_sign_515 : decode cX16_sign 515 = .ok (.iconst 0, 1) := dk_get daX16_sign 271 (r := (515, .iconst 0, 1)) rfl
theorem dX16_sign_516 : decode cX16_sign 516 = .ok (.istore 7, 2) := dk_get daX16_sign 272 (r := (516, .istore 7, 2)) rfl
theorem dX16_sign_518 : decode cX16_sign 518 = .ok (.iload 7, 2) := dk_get daX16_sign 273 (r := (518, .iload 7, 2)) rfl
theorem dX16_sign_520 : decode cX16_sign 520 = .ok (.bipush 8, 2) := dk_get daX16_sign 274 (r := (520, .bipush 8, 2)) rfl
theorem dX16_sign_522 : decode cX16_sign 522 = .ok (.if_icmp .ge 26, 3) := dk_get daX16_sign 275 (r := (522, .if_icmp .ge 26, 3)) rfl
theorem dX16_sign_525 : decode cX16_sign 525 = .ok (.aload_n 0, 1) := dk_get daX16_sign 276 (r := (525, .aload_n 0, 1)) rfl
theorem dX16_sign_526 : decode cX16_sign 526 = .ok (.getfield 222, 3) := dk_get daX16_sign 277 (r := (526, .getfield 222, 3)) rfl
theorem dX16_sign_529 : decode cX16_sign 529 = .ok (.iload 7, 2) := dk_get daX16_sign 278 (r := (529, .iload 7, 2)) rfl
theorem dX16_sign_531 : decode cX16_sign 531 = .ok (.iload 7, 2) := dk_get daX16_sign 279 (r := (531, .iload 7, 2)) rfl
theorem dX16_sign_533 : decode cX16_sign 533 = .ok (.ifCond .ne 7, 3) := dk_get daX16_sign 280 (r := (533, .ifCond .ne 7, 3)) rfl
theorem dX16_sign_536 : decode cX16_sign 536 = .ok (.iload_n 2, 1) := dk_get daX16_sign 281 (r := (536, .iload_n 2, 1)) rfl
theorem dX16_sign_537 : decode cX16_sign 537 = .ok (.goto 4, 3) := dk_get daX16_sign 282 (r := (537, .goto 4, 3)) rfl
theorem dX16_sign_540 : decode cX16_sign 540 = .ok (.iconst 0, 1) := dk_get daX16_sign 283 (r := (540, .iconst 0, 1)) rfl
theorem dX16_sign_541 : decode cX16_sign 541 = .ok (.iastore, 1) := dk_get daX16_sign 284 (r := (541, .iastore, 1)) rfl
theorem dX16_sign_542 : decode cX16_sign 542 = .ok (.iinc 7 1, 3) := dk_get daX16_sign 285 (r := (542, .iinc 7 1, 3)) rfl
theorem dX16_sign_545 : decode cX16_sign 545 = .ok (.goto (-27), 3) := dk_get daX16_sign 286 (r := (545, .goto (-27), 3)) rfl
theorem dX16_sign_548 : decode cX16_sign 548 = .ok (.aload_n 0, 1) := dk_get daX16_sign 287 (r := (548, .aload_n 0, 1)) rfl
theorem dX16_sign_549 : decode cX16_sign 549 = .ok (.getfield 192, 3) := dk_get daX16_sign 288 (r := (549, .getfield 192, 3)) rfl
theorem dX16_sign_552 : decode cX16_sign 552 = .ok (.aload_n 0, 1) := dk_get daX16_sign 289 (r := (552, .aload_n 0, 1)) rfl
theorem dX16_sign_553 : decode cX16_sign 553 = .ok (.getfield 222, 3) := dk_get daX16_sign 290 (r := (553, .getfield 222, 3)) rfl
theorem dX16_sign_556 : decode cX16_sign 556 = .ok (.aload_n 0, 1) := dk_get daX16_sign 291 (r := (556, .aload_n 0, 1)) rfl
theorem dX16_sign_557 : decode cX16_sign 557 = .ok (.getfield 222, 3) := dk_get daX16_sign 292 (r := (557, .getfield 222, 3)) rfl
theorem dX16_sign_560 : decode cX16_sign 560 = .ok (.invokevirtual 173, 3) := dk_get daX16_sign 293 (r := (560, .invokevirtual 173, 3)) rfl
theorem dX16_sign_563 : decode cX16_sign 563 = .ok (.aload_n 0, 1) := dk_get daX16_sign 294 (r := (563, .aload_n 0, 1)) rfl
theorem dX16_sign_564 : decode cX16_sign 564 = .ok (.getfield 192, 3) := dk_get daX16_sign 295 (r := (564, .getfield 192, 3)) rfl
theorem dX16_sign_567 : decode cX16_sign 567 = .ok (.aload_n 0, 1) := dk_get daX16_sign 296 (r := (567, .aload_n 0, 1)) rfl
theorem dX16_sign_568 : decode cX16_sign 568 = .ok (.getfield 155, 3) := dk_get daX16_sign 297 (r := (568, .getfield 155, 3)) rfl
theorem dX16_sign_571 : decode cX16_sign 571 = .ok (.aload_n 0, 1) := dk_get daX16_sign 298 (r := (571, .aload_n 0, 1)) rfl
theorem dX16_sign_572 : decode cX16_sign 572 = .ok (.getfield 210, 3) := dk_get daX16_sign 299 (r := (572, .getfield 210, 3)) rfl
theorem dX16_sign_575 : decode cX16_sign 575 = .ok (.invokevirtual 173, 3) := dk_get daX16_sign 300 (r := (575, .invokevirtual 173, 3)) rfl
theorem dX16_sign_578 : decode cX16_sign 578 = .ok (.aload_n 0, 1) := dk_get daX16_sign 301 (r := (578, .aload_n 0, 1)) rfl
theorem dX16_sign_579 : decode cX16_sign 579 = .ok (.getfield 192, 3) := dk_get daX16_sign 302 (r := (579, .getfield 192, 3)) rfl
theorem dX16_sign_582 : decode cX16_sign 582 = .ok (.aload_n 0, 1) := dk_get daX16_sign 303 (r := (582, .aload_n 0, 1)) rfl
theorem dX16_sign_583 : decode cX16_sign 583 = .ok (.getfield 222, 3) := dk_get daX16_sign 304 (r := (583, .getfield 222, 3)) rfl
theorem dX16_sign_586 : decode cX16_sign 586 = .ok (.aload_n 0, 1) := dk_get daX16_sign 305 (r := (586, .aload_n 0, 1)) rfl
theorem dX16_sign_587 : decode cX16_sign 587 = .ok (.getfield 210, 3) := dk_get daX16_sign 306 (r := (587, .getfield 210, 3)) rfl
theorem dX16_sign_590 : decode cX16_sign 590 = .ok (.aload_n 0, 1) := dk_get daX16_sign 307 (r := (590, .aload_n 0, 1)) rfl
theorem dX16_sign_591 : decode cX16_sign 591 = .ok (.getfield 222, 3) := dk_get daX16_sign 308 (r := (591, .getfield 222, 3)) rfl
theorem dX16_sign_594 : decode cX16_sign 594 = .ok (.invokevirtual 111, 3) := dk_get daX16_sign 309 (r := (594, .invokevirtual 111, 3)) rfl
theorem dX16_sign_597 : decode cX16_sign 597 = .ok (.aload_n 0, 1) := dk_get daX16_sign 310 (r := (597, .aload_n 0, 1)) rfl
theorem dX16_sign_598 : decode cX16_sign 598 = .ok (.getfield 213, 3) := dk_get daX16_sign 311 (r := (598, .getfield 213, 3)) rfl
theorem dX16_sign_601 : decode cX16_sign 601 = .ok (.iconst 0, 1) := dk_get daX16_sign 312 (r := (601, .iconst 0, 1)) rfl
theorem dX16_sign_602 : decode cX16_sign 602 = .ok (.iconst 1, 1) := dk_get daX16_sign 313 (r := (602, .iconst 1, 1)) rfl
theorem dX16_sign_603 : decode cX16_sign 603 = .ok (.aload_n 0, 1) := dk_get daX16_sign 314 (r := (603, .aload_n 0, 1)) rfl
theorem dX16_sign_604 : decode cX16_sign 604 = .ok (.getfield 210, 3) := dk_get daX16_sign 315 (r := (604, .getfield 210, 3)) rfl
theorem dX16_sign_607 : decode cX16_sign 607 = .ok (.invokestatic 158, 3) := dk_get daX16_sign 316 (r := (607, .invokestatic 158, 3)) rfl
theorem dX16_sign_610 : decode cX16_sign 610 = .ok (.aload_n 0, 1) := dk_get daX16_sign 317 (r := (610, .aload_n 0, 1)) rfl
theorem dX16_sign_611 : decode cX16_sign 611 = .ok (.getfield 192, 3) := dk_get daX16_sign 318 (r := (611, .getfield 192, 3)) rfl
theorem dX16_sign_614 : decode cX16_sign 614 = .ok (.aload_n 0, 1) := dk_get daX16_sign 319 (r := (614, .aload_n 0, 1)) rfl
theorem dX16_sign_615 : decode cX16_sign 615 = .ok (.getfield 210, 3) := dk_get daX16_sign 320 (r := (615, .getfield 210, 3)) rfl
theorem dX16_sign_618 : decode cX16_sign 618 = .ok (.aload_n 0, 1) := dk_get daX16_sign 321 (r := (618, .aload_n 0, 1)) rfl
theorem dX16_sign_619 : decode cX16_sign 619 = .ok (.getfield 210, 3) := dk_get daX16_sign 322 (r := (619, .getfield 210, 3)) rfl
theorem dX16_sign_622 : decode cX16_sign 622 = .ok (.invokevirtual 173, 3) := dk_get daX16_sign 323 (r := (622, .invokevirtual 173, 3)) rfl
theorem dX16_sign_625 : decode cX16_sign 625 = .ok (.aload_n 0, 1) := dk_get daX16_sign 324 (r := (625, .aload_n 0, 1)) rfl
theorem dX16_sign_626 : decode cX16_sign 626 = .ok (.getfield 192, 3) := dk_get daX16_sign 325 (r := (626, .getfield 192, 3)) rfl
theorem dX16_sign_629 : decode cX16_sign 629 = .ok (.aload_n 0, 1) := dk_get daX16_sign 326 (r := (629, .aload_n 0, 1)) rfl
theorem dX16_sign_630 : decode cX16_sign 630 = .ok (.getfield 210, 3) := dk_get daX16_sign 327 (r := (630, .getfield 210, 3)) rfl
theorem dX16_sign_633 : decode cX16_sign 633 = .ok (.aload_n 0, 1) := dk_get daX16_sign 328 (r := (633, .aload_n 0, 1)) rfl
theorem dX16_sign_634 : decode cX16_sign 634 = .ok (.getfield 222, 3) := dk_get daX16_sign 329 (r := (634, .getfield 222, 3)) rfl
theorem dX16_sign_637 : decode cX16_sign 637 = .ok (.aload_n 0, 1) := dk_get daX16_sign 330 (r := (637, .aload_n 0, 1)) rfl
theorem dX16_sign_638 : decode cX16_sign 638 = .ok (.getfield 210, 3) := dk_get daX16_sign 331 (r := (638, .getfield 210, 3)) rfl
theorem dX16_sign_641 : decode cX16_sign 641 = .ok (.invokevirtual 121, 3) := dk_get daX16_sign 332 (r := (641, .invokevirtual 121, 3)) rfl
theorem dX16_sign_644 : decode cX16_sign 644 = .ok (.aload_n 0, 1) := dk_get daX16_sign 333 (r := (644, .aload_n 0, 1)) rfl
theorem dX16_sign_645 : decode cX16_sign 645 = .ok (.getfield 192, 3) := dk_get daX16_sign 334 (r := (645, .getfield 192, 3)) rfl
theorem dX16_sign_648 : decode cX16_sign 648 = .ok (.aload_n 0, 1) := dk_get daX16_sign 335 (r := (648, .aload_n 0, 1)) rfl
theorem dX16_sign_649 : decode cX16_sign 649 = .ok (.getfield 210, 3) := dk_get daX16_sign 336 (r := (649, .getfield 210, 3)) rfl
theorem dX16_sign_652 : decode cX16_sign 652 = .ok (.aload_n 0, 1) := dk_get daX16_sign 337 (r := (652, .aload_n 0, 1)) rfl
theorem dX16_sign_653 : decode cX16_sign 653 = .ok (.getfield 219, 3) := dk_get daX16_sign 338 (r := (653, .getfield 219, 3)) rfl
theorem dX16_sign_656 : decode cX16_sign 656 = .ok (.aload_n 0, 1) := dk_get daX16_sign 339 (r := (656, .aload_n 0, 1)) rfl
theorem dX16_sign_657 : decode cX16_sign 657 = .ok (.getfield 210, 3) := dk_get daX16_sign 340 (r := (657, .getfield 210, 3)) rfl
theorem dX16_sign_660 : decode cX16_sign 660 = .ok (.invokevirtual 111, 3) := dk_get daX16_sign 341 (r := (660, .invokevirtual 111, 3)) rfl
theorem dX16_sign_663 : decode cX16_sign 663 = .ok (.aload_n 0, 1) := dk_get daX16_sign 342 (r := (663, .aload_n 0, 1)) rfl
theorem dX16_sign_664 : decode cX16_sign 664 = .ok (.getfield 192, 3) := dk_get daX16_sign 343 (r := (664, .getfield 192, 3)) rfl
theorem dX16_sign_667 : decode cX16_sign 667 = .ok (.aload_n 0, 1) := dk_get daX16_sign 344 (r := (667, .aload_n 0, 1)) rfl
theorem dX16_sign_668 : decode cX16_sign 668 = .ok (.getfield 210, 3) := dk_get daX16_sign 345 (r := (668, .getfield 210, 3)) rfl
theorem dX16_sign_671 : decode cX16_sign 671 = .ok (.aload_n 0, 1) := dk_get daX16_sign 346 (r := (671, .aload_n 0, 1)) rfl
theorem dX16_sign_672 : decode cX16_sign 672 = .ok (.getfield 210, 3) := dk_get daX16_sign 347 (r := (672, .getfield 210, 3)) rfl
theorem dX16_sign_675 : decode cX16_sign 675 = .ok (.invokevirtual 151, 3) := dk_get daX16_sign 348 (r := (675, .invokevirtual 151, 3)) rfl
theorem dX16_sign_678 : decode cX16_sign 678 = .ok (.aload_n 0, 1) := dk_get daX16_sign 349 (r := (678, .aload_n 0, 1)) rfl
theorem dX16_sign_679 : decode cX16_sign 679 = .ok (.iconst 2, 1) := dk_get daX16_sign 350 (r := (679, .iconst 2, 1)) rfl
theorem dX16_sign_680 : decode cX16_sign 680 = .ok (.putfield 918, 3) := dk_get daX16_sign 351 (r := (680, .putfield 918, 3)) rfl
theorem dX16_sign_683 : decode cX16_sign 683 = .ok (.aload_n 0, 1) := dk_get daX16_sign 352 (r := (683, .aload_n 0, 1)) rfl
theorem dX16_sign_684 : decode cX16_sign 684 = .ok (.aload_n 0, 1) := dk_get daX16_sign 353 (r := (684, .aload_n 0, 1)) rfl
theorem dX16_sign_685 : decode cX16_sign 685 = .ok (.getfield 155, 3) := dk_get daX16_sign 354 (r := (685, .getfield 155, 3)) rfl
theorem dX16_sign_688 : decode cX16_sign 688 = .ok (.invokevirtual 921, 3) := dk_get daX16_sign 355 (r := (688, .invokevirtual 921, 3)) rfl
theorem dX16_sign_691 : decode cX16_sign 691 = .ok (.aload_n 0, 1) := dk_get daX16_sign 356 (r := (691, .aload_n 0, 1)) rfl
theorem dX16_sign_692 : decode cX16_sign 692 = .ok (.aload_n 0, 1) := dk_get daX16_sign 357 (r := (692, .aload_n 0, 1)) rfl
theorem dX16_sign_693 : decode cX16_sign 693 = .ok (.getfield 210, 3) := dk_get daX16_sign 358 (r := (693, .getfield 210, 3)) rfl
theorem dX16_sign_696 : decode cX16_sign 696 = .ok (.invokevirtual 921, 3) := dk_get daX16_sign 359 (r := (696, .invokevirtual 921, 3)) rfl
theorem dX16_sign_699 : decode cX16_sign 699 = .ok (.aload_n 0, 1) := dk_get daX16_sign 360 (r := (699, .aload_n 0, 1)) rfl
theorem dX16_sign_700 : decode cX16_sign 700 = .ok (.getfield 813, 3) := dk_get daX16_sign 361 (r := (700, .getfield 813, 3)) rfl
theorem dX16_sign_703 : decode cX16_sign 703 = .ok (.iconst 0, 1) := dk_get daX16_sign 362 (r := (703, .iconst 0, 1)) rfl
theorem dX16_sign_704 : decode cX16_sign 704 = .ok (.bipush 48, 2) := dk_get daX16_sign 363 (r := (704, .bipush 48, 2)) rfl
theorem dX16_sign_706 : decode cX16_sign 706 = .ok (.bastore, 1) := dk_get daX16_sign 364 (r := (706, .bastore, 1)) rfl
theorem dX16_sign_707 : decode cX16_sign 707 = .ok (.aload_n 0, 1) := dk_get daX16_sign 365 (r := (707, .aload_n 0, 1)) rfl
theorem dX16_sign_708 : decode cX16_sign 708 = .ok (.getfield 813, 3) := dk_get daX16_sign 366 (r := (708, .getfield 813, 3)) rfl
theorem dX16_sign_711 : decode cX16_sign 711 = .ok (.iconst 1, 1) := dk_get daX16_sign 367 (r := (711, .iconst 1, 1)) rfl
theorem dX16_sign_712 : decode cX16_sign 712 = .ok (.aload_n 0, 1) := dk_get daX16_sign 368 (r := (712, .aload_n 0, 1)) rfl
theorem dX16_sign_713 : decode cX16_sign 713 = .ok (.getfield 918, 3) := dk_get daX16_sign 369 (r := (713, .getfield 918, 3)) rfl
theorem dX16_sign_716 : decode cX16_sign 716 = .ok (.iconst 2, 1) := dk_get daX16_sign 370 (r := (716, .iconst 2, 1)) rfl
theorem dX16_sign_717 : decode cX16_sign 717 = .ok (.isub, 1) := dk_get daX16_sign 371 (r := (717, .isub, 1)) rfl
theorem dX16_sign_718 : decode cX16_sign 718 = .ok (.i2b, 1) := dk_get daX16_sign 372 (r := (718, .i2b, 1)) rfl
theorem dX16_sign_719 : decode cX16_sign 719 = .ok (.bastore, 1) := dk_get daX16_sign 373 (r := (719, .bastore, 1)) rfl
theorem dX16_sign_720 : decode cX16_sign 720 = .ok (.aload_n 0, 1) := dk_get daX16_sign 374 (r := (720, .aload_n 0, 1)) rfl
theorem dX16_sign_721 : decode cX16_sign 721 = .ok (.getfield 813, 3) := dk_get daX16_sign 375 (r := (721, .getfield 813, 3)) rfl
theorem dX16_sign_724 : decode cX16_sign 724 = .ok (.aload_n 0, 1) := dk_get daX16_sign 376 (r := (724, .aload_n 0, 1)) rfl
theorem dX16_sign_725 : decode cX16_sign 725 = .ok (.getfield 918, 3) := dk_get daX16_sign 377 (r := (725, .getfield 918, 3)) rfl
theorem dX16_sign_728 : decode cX16_sign 728 = .ok (.iload_n 3, 1) := dk_get daX16_sign 378 (r := (728, .iload_n 3, 1)) rfl
theorem dX16_sign_729 : decode cX16_sign 729 = .ok (.i2b, 1) := dk_get daX16_sign 379 (r := (729, .i2b, 1)) rfl
theorem dX16_sign_730 : decode cX16_sign 730 = .ok (.bastore, 1) := dk_get daX16_sign 380 (r := (730, .bastore, 1)) rfl
theorem dX16_sign_731 : decode cX16_sign 731 = .ok (.aload_n 0, 1) := dk_get daX16_sign 381 (r := (731, .aload_n 0, 1)) rfl
theorem dX16_sign_732 : decode cX16_sign 732 = .ok (.dup, 1) := dk_get daX16_sign 382 (r := (732, .dup, 1)) rfl
theorem dX16_sign_733 : decode cX16_sign 733 = .ok (.getfield 918, 3) := dk_get daX16_sign 383 (r := (733, .getfield 918, 3)) rfl
theorem dX16_sign_736 : decode cX16_sign 736 = .ok (.iconst 1, 1) := dk_get daX16_sign 384 (r := (736, .iconst 1, 1)) rfl
theorem dX16_sign_737 : decode cX16_sign 737 = .ok (.iadd, 1) := dk_get daX16_sign 385 (r := (737, .iadd, 1)) rfl
theorem dX16_sign_738 : decode cX16_sign 738 = .ok (.putfield 918, 3) := dk_get daX16_sign 386 (r := (738, .putfield 918, 3)) rfl
theorem dX16_sign_741 : decode cX16_sign 741 = .ok (.aload_n 0, 1) := dk_get daX16_sign 387 (r := (741, .aload_n 0, 1)) rfl
theorem dX16_sign_742 : decode cX16_sign 742 = .ok (.iload 4, 2) := dk_get daX16_sign 388 (r := (742, .iload 4, 2)) rfl
theorem dX16_sign_744 : decode cX16_sign 744 = .ok (.aload_n 0, 1) := dk_get daX16_sign 389 (r := (744, .aload_n 0, 1)) rfl
theorem dX16_sign_745 : decode cX16_sign 745 = .ok (.getfield 813, 3) := dk_get daX16_sign 390 (r := (745, .getfield 813, 3)) rfl
theorem dX16_sign_748 : decode cX16_sign 748 = .ok (.aload_n 0, 1) := dk_get daX16_sign 391 (r := (748, .aload_n 0, 1)) rfl
theorem dX16_sign_749 : decode cX16_sign 749 = .ok (.getfield 918, 3) := dk_get daX16_sign 392 (r := (749, .getfield 918, 3)) rfl
theorem dX16_sign_752 : decode cX16_sign 752 = .ok (.invokevirtual 915, 3) := dk_get daX16_sign 393 (r := (752, .invokevirtual 915, 3)) rfl
theorem dX16_sign_755 : decode cX16_sign 755 = .ok (.aload_n 0, 1) := dk_get daX16_sign 394 (r := (755, .aload_n 0, 1)) rfl
theorem dX16_sign_756 : decode cX16_sign 756 = .ok (.getfield 743, 3) := dk_get daX16_sign 395 (r := (756, .getfield 743, 3)) rfl
theorem dX16_sign_759 : decode cX16_sign 759 = .ok (.iload 4, 2) := dk_get daX16_sign 396 (r := (759, .iload 4, 2)) rfl
theorem dX16_sign_761 : decode cX16_sign 761 = .ok (.iaload, 1) := dk_get daX16_sign 397 (r := (761, .iaload, 1)) rfl
theorem dX16_sign_762 : decode cX16_sign 762 = .ok (.ireturn, 1) := dk_get daX16_sign 398 (r := (762, .ireturn, 1)) rfl
abbrev mX16_assemble : ks_M := (RX16, cX16_assemble, 5, none, "assemble")
def drX16_assemble : List (Nat × Instr × Nat) := [(0, .iconst 0, 1), (1, .istore_n 2, 1), (2, .iload_n 2, 1), (3, .aload_n 0, 1), (4, .getfield 865, 3), (7, .if_icmp .ge 14, 3), (10, .aload_n 0, 1), (11, .iload_n 2, 1), (12, .invokevirtual 909, 3), (15, .iinc 2 1, 3), (18, .goto (-16), 3), (21, .aload_n 0, 1), (22, .aload_n 0, 1), (23, .getfield 770, 3), (26, .aload_n 0, 1), (27, .getfield 865, 3), (30, .invokevirtual 441, 3), (33, .aload_n 0, 1), (34, .getfield 859, 3), (37, .ifCond .ge 9, 3), (40, .ldc_w 852, 3), (43, .goto 11, 3), (46, .aload_n 0, 1), (47, .aload_n 0, 1), (48, .getfield 859, 3), (51, .invokevirtual 435, 3), (54, .istore_n 2, 1), (55, .iload_n 2, 1), (56, .aload_n 0, 1), (57, .getfield 804, 3), (60, .invokestatic 376, 3), (63, .pop, 1), (64, .aload_n 0, 1), (65, .iconst 0, 1), (66, .putfield 723, 3), (69, .aload_n 0, 1), (70, .iload_n 1, 1), (71, .iconst 4, 1), (72, .if_icmp .ne 9, 3), (75, .ldc2_w 924, 3), (78, .goto 4, 3), (81, .lconst 1, 1), (82, .iconst 4, 1), (83, .invokevirtual 726, 3), (86, .aload_n 0, 1), (87, .getfield 859, 3), (90, .ifCond .lt 8, 3), (93, .iload_n 1, 1), (94, .iconst 5, 1), (95, .if_icmp .ne 26, 3), (98, .iconst 0, 1), (99, .istore_n 3, 1), (100, .iload_n 3, 1), (101, .iconst 4, 1), (102, .if_icmp .ge 16, 3), (105, .aload_n 0, 1), (106, .lconst 0, 1), (107, .bipush 8, 2), (109, .invokevirtual 726, 3), (112, .iinc 3 1, 3), (115, .goto (-15), 3), (118, .goto 22, 3), (121, .aload_n 0, 1), (122, .aload_n 0, 1), (123, .getfield 347, 3), (126, .aload_n 0, 1), (127, .getfield 859, 3), (130, .aaload, 1), (131, .getfield 406, 3), (134, .iconst 0, 1), (135, .bipush 32, 2), (137, .invokevirtual 741, 3), (140, .aload_n 0, 1), (141, .aload_n 0, 1), (142, .getfield 394, 3), (145, .iconst 0, 1), (146, .bipush 32, 2), (148, .invokevirtual 741, 3), (151, .iload_n 1, 1), (152, .iconst 1, 1), (153, .if_icmp .ne 15, 3), (156, .aload_n 0, 1), (157, .getfield 720, 3), (160, .bipush 36, 2), (162, .dup2, 1), (163, .baload, 1), (164, .iconst 1, 1), (165, .iadd, 1), (166, .i2b, 1), (167, .bastore, 1), (168, .aload_n 0, 1), (169, .aload_n 0, 1), (170, .getfield 855, 3), (173, .iconst 4, 1), (174, .invokevirtual 726, 3), (177, .aload_n 0, 1), (178, .iload_n 1, 1), (179, .iconst 2, 1), (180, .if_icmp .ne 10, 3), (183, .iload_n 2, 1), (184, .i2l, 1), (185, .lconst 1, 1), (186, .lsub, 1), (187, .goto 5, 3), (190, .iload_n 2, 1), (191, .i2l, 1), (192, .iconst 4, 1), (193, .invokevirtual 726, 3), (196, .aload_n 0, 1), (197, .lconst 0, 1), (198, .iconst 4, 1), (199, .invokevirtual 726, 3), (202, .aload_n 0, 1), (203, .aload_n 0, 1), (204, .getfield 865, 3), (207, .invokevirtual 735, 3), (210, .iconst 0, 1), (211, .istore_n 3, 1), (212, .iload_n 3, 1), (213, .aload_n 0, 1), (214, .getfield 865, 3), (217, .if_icmp .ge 14, 3), (220, .aload_n 0, 1), (221, .iload_n 3, 1), (222, .invokevirtual 767, 3), (225, .iinc 3 1, 3), (228, .goto (-16), 3), (231, .iconst 0, 1), (232, .istore_n 3, 1), (233, .iload_n 3, 1), (234, .sipush 4096, 3), (237, .if_icmp .ge 104, 3), (240, .iconst 0, 1), (241, .istore 4, 2), (243, .iload 4, 2), (245, .iconst 4, 1), (246, .if_icmp .ge 27, 3), (249, .aload_n 0, 1), (250, .getfield 720, 3), (253, .bipush 76, 2), (255, .iload 4, 2), (257, .iadd, 1), (258, .iload_n 3, 1), (259, .bipush 8, 2), (261, .iload 4, 2), (263, .imul, 1), (264, .iushr, 1), (265, .i2b, 1), (266, .bastore, 1), (267, .iinc 4 1, 3), (270, .goto (-27), 3), (273, .aload_n 0, 1), (274, .aload_n 0, 1), (275, .getfield 720, 3), (278, .iconst 0, 1), (279, .bipush 80, 2), (281, .aload_n 0, 1), (282, .getfield 636, 3), (285, .iconst 0, 1), (286, .invokevirtual 319, 3), (289, .aload_n 0, 1), (290, .getfield 636, 3), (293, .iconst 0, 1), (294, .iconst 0, 1), (295, .aload_n 0, 1), (296, .getfield 795, 3), (299, .invokestatic 158, 3), (302, .aload_n 0, 1), (303, .getfield 795, 3), (306, .aload_n 0, 1), (307, .getfield 804, 3), (310, .invokestatic 165, 3), (313, .ifCond .gt 7, 3), (316, .iconst 1, 1), (317, .goto 4, 3), (320, .iconst 0, 1), (321, .iload_n 1, 1), (322, .iconst 3, 1), (323, .if_icmp .ne 7, 3), (326, .iconst 1, 1), (327, .goto 4, 3), (330, .iconst 0, 1), (331, .if_icmp .eq 4, 3), (334, .return_, 1), (335, .iinc 3 1, 3), (338, .goto (-105), 3), (341, .return_, 1)]
set_option maxRecDepth 100000 in
theorem daX16_assemble : dk_all cX16_assemble drX16_assemble = true := by decide +kernel
theorem dX16_assemble_0 : decode cX16_assemble 0 = .ok (.iconst 0, 1) := dk_get daX16_assemble 0 (r := (0, .iconst 0, 1)) rfl
theorem dX16_assemble_1 : decode cX16_assemble 1 = .ok (.istore_n 2, 1) := dk_get daX16_assemble 1 (r := (1, .istore_n 2, 1)) rfl
theorem dX16_assemble_2 : decode cX16_assemble 2 = .ok (.iload_n 2, 1) := dk_get daX16_assemble 2 (r := (2, .iload_n 2, 1)) rfl
theorem dX16_assemble_3 : decode cX16_assemble 3 = .ok (.aload_n 0, 1) := dk_get daX16_assemble 3 (r := (3, .aload_n 0, 1)) rfl
theorem dX16_assemble_4 : decode cX16_assemble 4 = .ok (.getfield 865, 3) := dk_get daX16_assemble 4 (r := (4, .getfield 865, 3)) rfl
theorem dX16_assemble_7 : decode cX16_assemble 7 = .ok (.if_icmp .ge 14, 3) := dk_get daX16_assemble 5 (r := (7, .if_icmp .ge 14, 3)) rfl
theorem dX16_assemble_10 : decode cX16_assemble 10 = .ok (.aload_n 0, 1) := dk_get daX16_assemble 6 (r := (10, .aload_n 0, 1)) rfl
theorem dX16_assemble_11 : decode cX16_assemble 11 = .ok (.iload_n 2, 1) := dk_get daX16_assemble 7 (r := (11, .iload_n 2, 1)) rfl
theorem dX16_assemble_12 : decode cX16_assemble 12 = .ok (.invokevirtual 909, 3) := dk_get daX16_assemble 8 (r := (12, .invokevirtual 909, 3)) rfl
theorem dX16_assemble_15 : decode cX16_assemble 15 = .ok (.iinc 2 1, 3) := dk_get daX16_assemble 9 (r := (15, .iinc 2 1, 3)) rfl
theorem dX16_assemble_18 : decode cX16_assemble 18 = .ok (.goto (-16), 3) := dk_get daX16_assemble 10 (r := (18, .goto (-16), 3)) rfl
theorem dX16_assemble_21 : decode cX16_assemble 21 = .ok (.aload_n 0, 1) := dk_get daX16_assemble 11 (r := (21, .aload_n 0, 1)) rfl
theorem dX16_assemble_22 : decode cX16_assemble 22 = .ok (.aload_n 0, 1) := dk_get daX16_assemble 12 (r := (22, .aload_n 0, 1)) rfl
theorem dX16_assemble_23 : decode cX16_assemble 23 = .ok (.getfield 770, 3) := dk_get daX16_assemble 13 (r := (23, .getfield 770, 3)) rfl
theorem dX16_assemble_26 : decode cX16_assemble 26 = .ok (.aload_n 0, 1) := dk_get daX16_assemble 14 (r := (26, .aload_n 0, 1)) rfl
theorem dX16_assemble_27 : decode cX16_assemble 27 = .ok (.getfield 865, 3) := dk_get daX16_assemble 15 (r := (27, .getfield 865, 3)) rfl
theorem dX16_assemble_30 : decode cX16_assemble 30 = .ok (.invokevirtual 441, 3) := dk_get daX16_assemble 16 (r := (30, .invokevirtual 441, 3)) rfl
theorem dX16_assemble_33 : decode cX16_assemble 33 = .ok (.aload_n 0, 1) := dk_get daX16_assemble 17 (r := (33, .aload_n 0, 1)) rfl
theorem dX16_assemble_34 : decode cX16_assemble 34 = .ok (.getfield 859, 3) := dk_get daX16_assemble 18 (r := (34, .getfield 859, 3)) rfl
theorem dX16_assemble_37 : decode cX16_assemble 37 = .ok (.ifCond .ge 9, 3) := dk_get daX16_assemble 19 (r := (37, .ifCond .ge 9, 3)) rfl
theorem dX16_assemble_40 : decode cX16_assemble 40 = .ok (.ldc_w 852, 3) := dk_get daX16_assemble 20 (r := (40, .ldc_w 852, 3)) rfl
theorem dX16_assemble_43 : decode cX16_assemble 43 = .ok (.goto 11, 3) := dk_get daX16_assemble 21 (r := (43, .goto 11, 3)) rfl
theorem dX16_assemble_46 : decode cX16_assemble 46 = .ok (.aload_n 0, 1) := dk_get daX16_assemble 22 (r := (46, .aload_n 0, 1)) rfl
theorem dX16_assemble_47 : decode cX16_assemble 47 = .ok (.aload_n 0, 1) := dk_get daX16_assemble 23 (r := (47, .aload_n 0, 1)) rfl
theorem dX16_assemble_48 : decode cX16_assemble 48 = .ok (.getfield 859, 3) := dk_get daX16_assemble 24 (r := (48, .getfield 859, 3)) rfl
theorem dX16_assemble_51 : decode cX16_assemble 51 = .ok (.invokevirtual 435, 3) := dk_get daX16_assemble 25 (r := (51, .invokevirtual 435, 3)) rfl
theorem dX16_assemble_54 : decode cX16_assemble 54 = .ok (.istore_n 2, 1) := dk_get daX16_assemble 26 (r := (54, .istore_n 2, 1)) rfl
theorem dX16_assemble_55 : decode cX16_assemble 55 = .ok (.iload_n 2, 1) := dk_get daX16_assemble 27 (r := (55, .iload_n 2, 1)) rfl
theorem dX16_assemble_56 : decode cX16_assemble 56 = .ok (.aload_n 0, 1) := dk_get daX16_assemble 28 (r := (56, .aload_n 0, 1)) rfl
theorem dX16_assemble_57 : decode cX16_assemble 57 = .ok (.getfield 804, 3) := dk_get daX16_assemble 29 (r := (57, .getfield 804, 3)) rfl
theorem dX16_assemble_60 : decode cX16_assemble 60 = .ok (.invokestatic 376, 3) := dk_get daX16_assemble 30 (r := (60, .invokestatic 376, 3)) rfl
theorem dX16_assemble_63 : decode cX16_assemble 63 = .ok (.pop, 1) := dk_get daX16_assemble 31 (r := (63, .pop, 1)) rfl
theorem dX16_assemble_64 : decode cX16_assemble 64 = .ok (.aload_n 0, 1) := dk_get daX16_assemble 32 (r := (64, .aload_n 0, 1)) rfl
theorem dX16_assemble_65 : decode cX16_assemble 65 = .ok (.iconst 0, 1) := dk_get daX16_assemble 33 (r := (65, .iconst 0, 1)) rfl
theorem dX16_assemble_66 : decode cX16_assemble 66 = .ok (.putfield 723, 3) := dk_get daX16_assemble 34 (r := (66, .putfield 723, 3)) rfl
theorem dX16_assemble_69 : decode cX16_assemble 69 = .ok (.aload_n 0, 1) := dk_get daX16_assemble 35 (r := (69, .aload_n 0, 1)) rfl
theorem dX16_assemble_70 : decode cX16_assemble 70 = .ok (.iload_n 1, 1) := dk_get daX16_assemble 36 (r := (70, .iload_n 1, 1)) rfl
theorem dX16_assemble_71 : decode cX16_assemble 71 = .ok (.iconst 4, 1) := dk_get daX16_assemble 37 (r := (71, .iconst 4, 1)) rfl
theorem dX16_assemble_72 : decode cX16_assemble 72 = .ok (.if_icmp .ne 9, 3) := dk_get daX16_assemble 38 (r := (72, .if_icmp .ne 9, 3)) rfl
theorem dX16_assemble_75 : decode cX16_assemble 75 = .ok (.ldc2_w 924, 3) := dk_get daX16_assemble 39 (r := (75, .ldc2_w 924, 3)) rfl
theorem dX16_assemble_78 : decode cX16_assemble 78 = .ok (.goto 4, 3) := dk_get daX16_assemble 40 (r := (78, .goto 4, 3)) rfl
theorem dX16_assemble_81 : decode cX16_assemble 81 = .ok (.lconst 1, 1) := dk_get daX16_assemble 41 (r := (81, .lconst 1, 1)) rfl
theorem dX16_assemble_82 : decode cX16_assemble 82 = .ok (.iconst 4, 1) := dk_get daX16_assemble 42 (r := (82, .iconst 4, 1)) rfl
theorem dX16_assemble_83 : decode cX16_assemble 83 = .ok (.invokevirtual 726, 3) := dk_get daX16_assemble 43 (r := (83, .invokevirtual 726, 3)) rfl
theorem dX16_assemble_86 : decode cX16_assemble 86 = .ok (.aload_n 0, 1) := dk_get daX16_assemble 44 (r := (86, .aload_n 0, 1)) rfl
theorem dX16_assemble_87 : decode cX16_assemble 87 = .ok (.getfield 859, 3) := dk_get daX16_assemble 45 (r := (87, .getfield 859, 3)) rfl
theorem dX16_assemble_90 : decode cX16_assemble 90 = .ok (.ifCond .lt 8, 3) := dk_get daX16_assemble 46 (r := (90, .ifCond .lt 8, 3)) rfl
theorem dX16_assemble_93 : decode cX16_assemble 93 = .ok (.iload_n 1, 1) := dk_get daX16_assemble 47 (r := (93, .iload_n 1, 1)) rfl
theorem dX16_assemble_94 : decode cX16_assemble 94 = .ok (.iconst 5, 1) := dk_get daX16_assemble 48 (r := (94, .iconst 5, 1)) rfl
theorem dX16_assemble_95 : decode cX16_assemble 95 = .ok (.if_icmp .ne 26, 3) := dk_get daX16_assemble 49 (r := (95, .if_icmp .ne 26, 3)) rfl
theorem dX16_assemble_98 : decode cX16_assemble 98 = .ok (.iconst 0, 1) := dk_get daX16_assemble 50 (r := (98, .iconst 0, 1)) rfl
theorem dX16_assemble_99 : decode cX16_assemble 99 = .ok (.istore_n 3, 1) := dk_get daX16_assemble 51 (r := (99, .istore_n 3, 1)) rfl
theorem dX16_assemble_100 : decode cX16_assemble 100 = .ok (.iload_n 3, 1) := dk_get daX16_assemble 52 (r := (100, .iload_n 3, 1)) rfl
theorem dX16_assemble_101 : decode cX16_assemble 101 = .ok (.iconst 4, 1) := dk_get daX16_assemble 53 (r := (101, .iconst 4, 1)) rfl
theorem dX16_assemble_102 : decode cX16_assemble 102 = .ok (.if_icmp .ge 16, 3) := dk_get daX16_assemble 54 (r := (102, .if_icmp .ge 16, 3)) rfl
theorem dX16_assemble_105 : decode cX16_assemble 105 = .ok (.aload_n 0, 1) := dk_get daX16_assemble 55 (r := (105, .aload_n 0, 1)) rfl
theorem dX16_assemble_106 : decode cX16_assemble 106 = .ok (.lconst 0, 1) := dk_get daX16_assemble 56 (r := (106, .lconst 0, 1)) rfl
theorem dX16_assemble_107 : decode cX16_assemble 107 = .ok (.bipush 8, 2) := dk_get daX16_assemble 57 (r := (107, .bipush 8, 2)) rfl
theorem dX16_assemble_109 : decode cX16_assemble 109 = .ok (.invokevirtual 726, 3) := dk_get daX16_assemble 58 (r := (109, .invokevirtual 726, 3)) rfl
theorem dX16_assemble_112 : decode cX16_assemble 112 = .ok (.iinc 3 1, 3) := dk_get daX16_assemble 59 (r := (112, .iinc 3 1, 3)) rfl
theorem dX16_assemble_115 : decode cX16_assemble 115 = .ok (.goto (-15), 3) := dk_get daX16_assemble 60 (r := (115, .goto (-15), 3)) rfl
theorem dX16_assemble_118 : decode cX16_assemble 118 = .ok (.goto 22, 3) := dk_get daX16_assemble 61 (r := (118, .goto 22, 3)) rfl
theorem dX16_assemble_121 : decode cX16_assemble 121 = .ok (.aload_n 0, 1) := dk_get daX16_assemble 62 (r := (121, .aload_n 0, 1)) rfl
theorem dX16_assemble_122 : decode cX16_assemble 122 = .ok (.aload_n 0, 1) := dk_get daX16_assemble 63 (r := (122, .aload_n 0, 1)) rfl
theorem dX16_assemble_123 : decode cX16_assemble 123 = .ok (.getfield 347, 3) := dk_get daX16_assemble 64 (r := (123, .getfield 347, 3)) rfl
theorem dX16_assemble_126 : decode cX16_assemble 126 = .ok (.aload_n 0, 1) := dk_get daX16_assemble 65 (r := (126, .aload_n 0, 1)) rfl
theorem dX16_assemble_127 : decode cX16_assemble 127 = .ok (.getfield 859, 3) := dk_get daX16_assemble 66 (r := (127, .getfield 859, 3)) rfl
theorem dX16_assemble_130 : decode cX16_assemble 130 = .ok (.aaload, 1) := dk_get daX16_assemble 67 (r := (130, .aaload, 1)) rfl
theorem dX16_assemble_131 : decode cX16_assemble 131 = .ok (.getfield 406, 3) := dk_get daX16_assemble 68 (r := (131, .getfield 406, 3)) rfl
theorem dX16_assemble_134 : decode cX16_assemble 134 = .ok (.iconst 0, 1) := dk_get daX16_assemble 69 (r := (134, .iconst 0, 1)) rfl
theorem dX16_assemble_135 : decode cX16_assemble 135 = .ok (.bipush 32, 2) := dk_get daX16_assemble 70 (r := (135, .bipush 32, 2)) rfl
theorem dX16_assemble_137 : decode cX16_assemble 137 = .ok (.invokevirtual 741, 3) := dk_get daX16_assemble 71 (r := (137, .invokevirtual 741, 3)) rfl
theorem dX16_assemble_140 : decode cX16_assemble 140 = .ok (.aload_n 0, 1) := dk_get daX16_assemble 72 (r := (140, .aload_n 0, 1)) rfl
theorem dX16_assemble_141 : decode cX16_assemble 141 = .ok (.aload_n 0, 1) := dk_get daX16_assemble 73 (r := (141, .aload_n 0, 1)) rfl
theorem dX16_assemble_142 : decode cX16_assemble 142 = .ok (.getfield 394, 3) := dk_get daX16_assemble 74 (r := (142, .getfield 394, 3)) rfl
theorem dX16_assemble_145 : decode cX16_assemble 145 = .ok (.iconst 0, 1) := dk_get daX16_assemble 75 (r := (145, .iconst 0, 1)) rfl
theorem dX16_assemble_146 : decode cX16_assemble 146 = .ok (.bipush 32, 2) := dk_get daX16_assemble 76 (r := (146, .bipush 32, 2)) rfl
theorem dX16_assemble_148 : decode cX16_assemble 148 = .ok (.invokevirtual 741, 3) := dk_get daX16_assemble 77 (r := (148, .invokevirtual 741, 3)) rfl
theorem dX16_assemble_151 : decode cX16_assemble 151 = .ok (.iload_n 1, 1) := dk_get daX16_assemble 78 (r := (151, .iload_n 1, 1)) rfl
theorem dX16_assemble_152 : decode cX16_assemble 152 = .ok (.iconst 1, 1) := dk_get daX16_assemble 79 (r := (152, .iconst 1, 1)) rfl
theorem dX16_assemble_153 : decode cX16_assemble 153 = .ok (.if_icmp .ne 15, 3) := dk_get daX16_assemble 80 (r := (153, .if_icmp .ne 15, 3)) rfl
theorem dX16_assemble_156 : decode cX16_assemble 156 = .ok (.aload_n 0, 1) := dk_get daX16_assemble 81 (r := (156, .aload_n 0, 1)) rfl
theorem dX16_assemble_157 : decode cX16_assemble 157 = .ok (.getfield 720, 3) := dk_get daX16_assemble 82 (r := (157, .getfield 720, 3)) rfl
theorem dX16_assemble_160 : decode cX16_assemble 160 = .ok (.bipush 36, 2) := dk_get daX16_assemble 83 (r := (160, .bipush 36, 2)) rfl
theorem dX16_assemble_162 : decode cX16_assemble 162 = .ok (.dup2, 1) := dk_get daX16_assemble 84 (r := (162, .dup2, 1)) rfl
theorem dX16_assemble_163 : decode cX16_assemble 163 = .ok (.baload, 1) := dk_get daX16_assemble 85 (r := (163, .baload, 1)) rfl
theorem dX16_assemble_164 : decode cX16_assemble 164 = .ok (.iconst 1, 1) := dk_get daX16_assemble 86 (r := (164, .iconst 1, 1)) rfl
theorem dX16_assemble_165 : decode cX16_assemble 165 = .ok (.iadd, 1) := dk_get daX16_assemble 87 (r := (165, .iadd, 1)) rfl
theorem dX16_assemble_166 : decode cX16_assemble 166 = .ok (.i2b, 1) := dk_get daX16_assemble 88 (r := (166, .i2b, 1)) rfl
theorem dX16_assemble_167 : decode cX16_assemble 167 = .ok (.bastore, 1) := dk_get daX16_assemble 89 (r := (167, .bastore, 1)) rfl
theorem dX16_assemble_168 : decode cX16_assemble 168 = .ok (.aload_n 0, 1) := dk_get daX16_assemble 90 (r := (168, .aload_n 0, 1)) rfl
theorem dX16_assemble_169 : decode cX16_assemble 169 = .ok (.aload_n 0, 1) := dk_get daX16_assemble 91 (r := (169, .aload_n 0, 1)) rfl
theorem dX16_assemble_170 : decode cX16_assemble 170 = .ok (.getfield 855, 3) := dk_get daX16_assemble 92 (r := (170, .getfield 855, 3)) rfl
theorem dX16_assemble_173 : decode cX16_assemble 173 = .ok (.iconst 4, 1) := dk_get daX16_assemble 93 (r := (173, .iconst 4, 1)) rfl
theorem dX16_assemble_174 : decode cX16_assemble 174 = .ok (.invokevirtual 726, 3) := dk_get daX16_assemble 94 (r := (174, .invokevirtual 726, 3)) rfl
theorem dX16_assemble_177 : decode cX16_assemble 177 = .ok (.aload_n 0, 1) := dk_get daX16_assemble 95 (r := (177, .aload_n 0, 1)) rfl
theorem dX16_assemble_178 : decode cX16_assemble 178 = .ok (.iload_n 1, 1) := dk_get daX16_assemble 96 (r := (178, .iload_n 1, 1)) rfl
theorem dX16_assemble_179 : decode cX16_assemble 179 = .ok (.iconst 2, 1) := dk_get daX16_assemble 97 (r := (179, .iconst 2, 1)) rfl
theorem dX16_assemble_180 : decode cX16_assemble 180 = .ok (.if_icmp .ne 10, 3) := dk_get daX16_assemble 98 (r := (180, .if_icmp .ne 10, 3)) rfl
theorem dX16_assemble_183 : decode cX16_assemble 183 = .ok (.iload_n 2, 1) := dk_get daX16_assemble 99 (r := (183, .iload_n 2, 1)) rfl
theorem dX16_assemble_184 : decode cX16_assemble 184 = .ok (.i2l, 1) := dk_get daX16_assemble 100 (r := (184, .i2l, 1)) rfl
theorem dX16_assemble_185 : decode cX16_assemble 185 = .ok (.lconst 1, 1) := dk_get daX16_assemble 101 (r := (185, .lconst 1, 1)) rfl
theorem dX16_assemble_186 : decode cX16_assemble 186 = .ok (.lsub, 1) := dk_get daX16_assemble 102 (r := (186, .lsub, 1)) rfl
theorem dX16_assemble_187 : decode cX16_assemble 187 = .ok (.goto 5, 3) := dk_get daX16_assemble 103 (r := (187, .goto 5, 3)) rfl
theorem dX16_assemble_190 : decode cX16_assemble 190 = .ok (.iload_n 2, 1) := dk_get daX16_assemble 104 (r := (190, .iload_n 2, 1)) rfl
theorem dX16_assemble_191 : decode cX16_assemble 191 = .ok (.i2l, 1) := dk_get daX16_assemble 105 (r := (191, .i2l, 1)) rfl
theorem dX16_assemble_192 : decode cX16_assemble 192 = .ok (.iconst 4, 1) := dk_get daX16_assemble 106 (r := (192, .iconst 4, 1)) rfl
theorem dX16_assemble_193 : decode cX16_assemble 193 = .ok (.invokevirtual 726, 3) := dk_get daX16_assemble 107 (r := (193, .invokevirtual 726, 3)) rfl
theorem dX16_assemble_196 : decode cX16_assemble 196 = .ok (.aload_n 0, 1) := dk_get daX16_assemble 108 (r := (196, .aload_n 0, 1)) rfl
theorem dX16_assemble_197 : decode cX16_assemble 197 = .ok (.lconst 0, 1) := dk_get daX16_assemble 109 (r := (197, .lconst 0, 1)) rfl
theorem dX16_assemble_198 : decode cX16_assemble 198 = .ok (.iconst 4, 1) := dk_get daX16_assemble 110 (r := (198, .iconst 4, 1)) rfl
theorem dX16_assemble_199 : decode cX16_assemble 199 = .ok (.invokevirtual 726, 3) := dk_get daX16_assemble 111 (r := (199, .invokevirtual 726, 3)) rfl
theorem dX16_assemble_202 : decode cX16_assemble 202 = .ok (.aload_n 0, 1) := dk_get daX16_assemble 112 (r := (202, .aload_n 0, 1)) rfl
theorem dX16_assemble_203 : decode cX16_assemble 203 = .ok (.aload_n 0, 1) := dk_get daX16_assemble 113 (r := (203, .aload_n 0, 1)) rfl
theorem dX16_assemble_204 : decode cX16_assemble 204 = .ok (.getfield 865, 3) := dk_get daX16_assemble 114 (r := (204, .getfield 865, 3)) rfl
theorem dX16_assemble_207 : decode cX16_assemble 207 = .ok (.invokevirtual 735, 3) := dk_get daX16_assemble 115 (r := (207, .invokevirtual 735, 3)) rfl
theorem dX16_assemble_210 : decode cX16_assemble 210 = .ok (.iconst 0, 1) := dk_get daX16_assemble 116 (r := (210, .iconst 0, 1)) rfl
theorem dX16_assemble_211 : decode cX16_assemble 211 = .ok (.istore_n 3, 1) := dk_get daX16_assemble 117 (r := (211, .istore_n 3, 1)) rfl
theorem dX16_assemble_212 : decode cX16_assemble 212 = .ok (.iload_n 3, 1) := dk_get daX16_assemble 118 (r := (212, .iload_n 3, 1)) rfl
theorem dX16_assemble_213 : decode cX16_assemble 213 = .ok (.aload_n 0, 1) := dk_get daX16_assemble 119 (r := (213, .aload_n 0, 1)) rfl
theorem dX16_assemble_214 : decode cX16_assemble 214 = .ok (.getfield 865, 3) := dk_get daX16_assemble 120 (r := (214, .getfield 865, 3)) rfl
theorem dX16_assemble_217 : decode cX16_assemble 217 = .ok (.if_icmp .ge 14, 3) := dk_get daX16_assemble 121 (r := (217, .if_icmp .ge 14, 3)) rfl
theorem dX16_assemble_220 : decode cX16_assemble 220 = .ok (.aload_n 0, 1) := dk_get daX16_assemble 122 (r := (220, .aload_n 0, 1)) rfl
theorem dX16_assemble_221 : decode cX16_assemble 221 = .ok (.iload_n 3, 1) := dk_get daX16_assemble 123 (r := (221, .iload_n 3, 1)) rfl
theorem dX16_assemble_222 : decode cX16_assemble 222 = .ok (.invokevirtual 767, 3) := dk_get daX16_assemble 124 (r := (222, .invokevirtual 767, 3)) rfl
theorem dX16_assemble_225 : decode cX16_assemble 225 = .ok (.iinc 3 1, 3) := dk_get daX16_assemble 125 (r := (225, .iinc 3 1, 3)) rfl
theorem dX16_assemble_228 : decode cX16_assemble 228 = .ok (.goto (-16), 3) := dk_get daX16_assemble 126 (r := (228, .goto (-16), 3)) rfl
theorem dX16_assemble_231 : decode cX16_assemble 231 = .ok (.iconst 0, 1) := dk_get daX16_assemble 127 (r := (231, .iconst 0, 1)) rfl
theorem dX16_assemble_232 : decode cX16_assemble 232 = .ok (.istore_n 3, 1) := dk_get daX16_assemble 128 (r := (232, .istore_n 3, 1)) rfl
theorem dX16_assemble_233 : decode cX16_assemble 233 = .ok (.iload_n 3, 1) := dk_get daX16_assemble 129 (r := (233, .iload_n 3, 1)) rfl
theorem dX16_assemble_234 : decode cX16_assemble 234 = .ok (.sipush 4096, 3) := dk_get daX16_assemble 130 (r := (234, .sipush 4096, 3)) rfl
theorem dX16_assemble_237 : decode cX16_assemble 237 = .ok (.if_icmp .ge 104, 3) := dk_get daX16_assemble 131 (r := (237, .if_icmp .ge 104, 3)) rfl
theorem dX16_assemble_240 : decode cX16_assemble 240 = .ok (.iconst 0, 1) := dk_get daX16_assemble 132 (r := (240, .iconst 0, 1)) rfl
theorem dX16_assemble_241 : decode cX16_assemble 241 = .ok (.istore 4, 2) := dk_get daX16_assemble 133 (r := (241, .istore 4, 2)) rfl
theorem dX16_assemble_243 : decode cX16_assemble 243 = .ok (.iload 4, 2) := dk_get daX16_assemble 134 (r := (243, .iload 4, 2)) rfl
theorem dX16_assemble_245 : decode cX16_assemble 245 = .ok (.iconst 4, 1) := dk_get daX16_assemble 135 (r := (245, .iconst 4, 1)) rfl
theorem dX16_assemble_246 : decode cX16_assemble 246 = .ok (.if_icmp .ge 27, 3) := dk_get daX16_assemble 136 (r := (246, .if_icmp .ge 27, 3)) rfl
theorem dX16_assemble_249 : decode cX16_assemble 249 = .ok (.aload_n 0, 1) := dk_get daX16_assemble 137 (r := (249, .aload_n 0, 1)) rfl
theorem dX16_assemble_250 : decode cX16_assemble 250 = .ok (.getfield 720, 3) := dk_get daX16_assemble 138 (r := (250, .getfield 720, 3)) rfl
theorem dX16_assemble_253 : decode cX16_assemble 253 = .ok (.bipush 76, 2) := dk_get daX16_assemble 139 (r := (253, .bipush 76, 2)) rfl
theorem dX16_assemble_255 : decode cX16_assemble 255 = .ok (.iload 4, 2) := dk_get daX16_assemble 140 (r := (255, .iload 4, 2)) rfl
theorem dX16_assemble_257 : decode cX16_assemble 257 = .ok (.iadd, 1) := dk_get daX16_assemble 141 (r := (257, .iadd, 1)) rfl
theorem dX16_assemble_258 : decode cX16_assemble 258 = .ok (.iload_n 3, 1) := dk_get daX16_assemble 142 (r := (258, .iload_n 3, 1)) rfl
theorem dX16_assemble_259 : decode cX16_assemble 259 = .ok (.bipush 8, 2) := dk_get daX16_assemble 143 (r := (259, .bipush 8, 2)) rfl
theorem dX16_assemble_261 : decode cX16_assemble 261 = .ok (.iload 4, 2) := dk_get daX16_assemble 144 (r := (261, .iload 4, 2)) rfl
theorem dX16_assemble_263 : decode cX16_assemble 263 = .ok (.imul, 1) := dk_get daX16_assemble 145 (r := (263, .imul, 1)) rfl
theorem dX16_assemble_264 : decode cX16_assemble 264 = .ok (.iushr, 1) := dk_get daX16_assemble 146 (r := (264, .iushr, 1)) rfl
theorem dX16_assemble_265 : decode cX16_assemble 265 = .ok (.i2b, 1) := dk_get daX16_assemble 147 (r := (265, .i2b, 1)) rfl
theorem dX16_assemble_266 : decode cX16_assemble 266 = .ok (.bastore, 1) := dk_get daX16_assemble 148 (r := (266, .bastore, 1)) rfl
theorem dX16_assemble_267 : decode cX16_assemble 267 = .ok (.iinc 4 1, 3) := dk_get daX16_assemble 149 (r := (267, .iinc 4 1, 3)) rfl
theorem dX16_assemble_270 : decode cX16_assemble 270 = .ok (.goto (-27), 3) := dk_get daX16_assemble 150 (r := (270, .goto (-27), 3)) rfl
theorem dX16_assemble_273 : decode cX16_assemble 273 = .ok (.aload_n 0, 1) := dk_get daX16_assemble 151 (r := (273, .aload_n 0, 1)) rfl
theorem dX16_assemble_274 : decode cX16_assemble 274 = .ok (.aload_n 0, 1) := dk_get daX16_assemble 152 (r := (274, .aload_n 0, 1)) rfl
theorem dX16_assemble_275 : decode cX16_assemble 275 = .ok (.getfield 720, 3) := dk_get daX16_assemble 153 (r := (275, .getfield 720, 3)) rfl
theorem dX16_assemble_278 : decode cX16_assemble 278 = .ok (.iconst 0, 1) := dk_get daX16_assemble 154 (r := (278, .iconst 0, 1)) rfl
theorem dX16_assemble_279 : decode cX16_assemble 279 = .ok (.bipush 80, 2) := dk_get daX16_assemble 155 (r := (279, .bipush 80, 2)) rfl
theorem dX16_assemble_281 : decode cX16_assemble 281 = .ok (.aload_n 0, 1) := dk_get daX16_assemble 156 (r := (281, .aload_n 0, 1)) rfl
theorem dX16_assemble_282 : decode cX16_assemble 282 = .ok (.getfield 636, 3) := dk_get daX16_assemble 157 (r := (282, .getfield 636, 3)) rfl
theorem dX16_assemble_285 : decode cX16_assemble 285 = .ok (.iconst 0, 1) := dk_get daX16_assemble 158 (r := (285, .iconst 0, 1)) rfl
theorem dX16_assemble_286 : decode cX16_assemble 286 = .ok (.invokevirtual 319, 3) := dk_get daX16_assemble 159 (r := (286, .invokevirtual 319, 3)) rfl
theorem dX16_assemble_289 : decode cX16_assemble 289 = .ok (.aload_n 0, 1) := dk_get daX16_assemble 160 (r := (289, .aload_n 0, 1)) rfl
theorem dX16_assemble_290 : decode cX16_assemble 290 = .ok (.getfield 636, 3) := dk_get daX16_assemble 161 (r := (290, .getfield 636, 3)) rfl
theorem dX16_assemble_293 : decode cX16_assemble 293 = .ok (.iconst 0, 1) := dk_get daX16_assemble 162 (r := (293, .iconst 0, 1)) rfl
theorem dX16_assemble_294 : decode cX16_assemble 294 = .ok (.iconst 0, 1) := dk_get daX16_assemble 163 (r := (294, .iconst 0, 1)) rfl
theorem dX16_assemble_295 : decode cX16_assemble 295 = .ok (.aload_n 0, 1) := dk_get daX16_assemble 164 (r := (295, .aload_n 0, 1)) rfl
theorem dX16_assemble_296 : decode cX16_assemble 296 = .ok (.getfield 795, 3) := dk_get daX16_assemble 165 (r := (296, .getfield 795, 3)) rfl
theorem dX16_assemble_299 : decode cX16_assemble 299 = .ok (.invokestatic 158, 3) := dk_get daX16_assemble 166 (r := (299, .invokestatic 158, 3)) rfl
theorem dX16_assemble_302 : decode cX16_assemble 302 = .ok (.aload_n 0, 1) := dk_get daX16_assemble 167 (r := (302, .aload_n 0, 1)) rfl
theorem dX16_assemble_303 : decode cX16_assemble 303 = .ok (.getfield 795, 3) := dk_get daX16_assemble 168 (r := (303, .getfield 795, 3)) rfl
theorem dX16_assemble_306 : decode cX16_assemble 306 = .ok (.aload_n 0, 1) := dk_get daX16_assemble 169 (r := (306, .aload_n 0, 1)) rfl
theorem dX16_assemble_307 : decode cX16_assemble 307 = .ok (.getfield 804, 3) := dk_get daX16_assemble 170 (r := (307, .getfield 804, 3)) rfl
theorem dX16_assemble_310 : decode cX16_assemble 310 = .ok (.invokestatic 165, 3) := dk_get daX16_assemble 171 (r := (310, .invokestatic 165, 3)) rfl
theorem dX16_assemble_313 : decode cX16_assemble 313 = .ok (.ifCond .gt 7, 3) := dk_get daX16_assemble 172 (r := (313, .ifCond .gt 7, 3)) rfl
theorem dX16_assemble_316 : decode cX16_assemble 316 = .ok (.iconst 1, 1) := dk_get daX16_assemble 173 (r := (316, .iconst 1, 1)) rfl
theorem dX16_assemble_317 : decode cX16_assemble 317 = .ok (.goto 4, 3) := dk_get daX16_assemble 174 (r := (317, .goto 4, 3)) rfl
theorem dX16_assemble_320 : decode cX16_assemble 320 = .ok (.iconst 0, 1) := dk_get daX16_assemble 175 (r := (320, .iconst 0, 1)) rfl
theorem dX16_assemble_321 : decode cX16_assemble 321 = .ok (.iload_n 1, 1) := dk_get daX16_assemble 176 (r := (321, .iload_n 1, 1)) rfl
theorem dX16_assemble_322 : decode cX16_assemble 322 = .ok (.iconst 3, 1) := dk_get daX16_assemble 177 (r := (322, .iconst 3, 1)) rfl
theorem dX16_assemble_323 : decode cX16_assemble 323 = .ok (.if_icmp .ne 7, 3) := dk_get daX16_assemble 178 (r := (323, .if_icmp .ne 7, 3)) rfl
theorem dX16_assemble_326 : decode cX16_assemble 326 = .ok (.iconst 1, 1) := dk_get daX16_assemble 179 (r := (326, .iconst 1, 1)) rfl
theorem dX16_assemble_327 : decode cX16_assemble 327 = .ok (.goto 4, 3) := dk_get daX16_assemble 180 (r := (327, .goto 4, 3)) rfl
theorem dX16_assemble_330 : decode cX16_assemble 330 = .ok (.iconst 0, 1) := dk_get daX16_assemble 181 (r := (330, .iconst 0, 1)) rfl
theorem dX16_assemble_331 : decode cX16_assemble 331 = .ok (.if_icmp .eq 4, 3) := dk_get daX16_assemble 182 (r := (331, .if_icmp .eq 4, 3)) rfl
theorem dX16_assemble_334 : decode cX16_assemble 334 = .ok (.return_, 1) := dk_get daX16_assemble 183 (r := (334, .return_, 1)) rfl
theorem dX16_assemble_335 : decode cX16_assemble 335 = .ok (.iinc 3 1, 3) := dk_get daX16_assemble 184 (r := (335, .iinc 3 1, 3)) rfl
theorem dX16_assemble_338 : decode cX16_assemble 338 = .ok (.goto (-105), 3) := dk_get daX16_assemble 185 (r := (338, .goto (-105), 3)) rfl
theorem dX16_assemble_341 : decode cX16_assemble 341 = .ok (.return_, 1) := dk_get daX16_assemble 186 (r := (341, .return_, 1)) rfl
abbrev mX16_seal : ks_M := (RX16, cX16_seal, 3, (some .int), "seal")
def drX16_seal : List (Nat × Instr × Nat) := [(0, .aload_n 0, 1), (1, .iload_n 1, 1), (2, .ifCond .lt 12, 3), (5, .iload_n 1, 1), (6, .iconst 5, 1), (7, .if_icmp .gt 7, 3), (10, .iconst 1, 1), (11, .goto 4, 3), (14, .iconst 0, 1), (15, .iconst 1, 1), (16, .invokevirtual 891, 3), (19, .ifCond .ne 5, 3), (22, .iconst 0, 1), (23, .ireturn, 1), (24, .aload_n 0, 1), (25, .iload_n 1, 1), (26, .invokevirtual 875, 3), (29, .aload_n 0, 1), (30, .aload_n 0, 1), (31, .getfield 723, 3), (34, .sipush 1600, 3), (37, .if_icmp .gt 7, 3), (40, .iconst 1, 1), (41, .goto 4, 3), (44, .iconst 0, 1), (45, .iconst 2, 1), (46, .invokevirtual 891, 3), (49, .ifCond .ne 5, 3), (52, .iconst 0, 1), (53, .ireturn, 1), (54, .iconst 0, 1), (55, .istore_n 2, 1), (56, .iload_n 2, 1), (57, .aload_n 0, 1), (58, .getfield 723, 3), (61, .if_icmp .ge 21, 3), (64, .aload_n 0, 1), (65, .getfield 801, 3), (68, .iload_n 2, 1), (69, .aload_n 0, 1), (70, .getfield 720, 3), (73, .iload_n 2, 1), (74, .baload, 1), (75, .bastore, 1), (76, .iinc 2 1, 3), (79, .goto (-23), 3), (82, .aload_n 0, 1), (83, .aload_n 0, 1), (84, .getfield 723, 3), (87, .putfield 862, 3), (90, .aload_n 0, 1), (91, .getfield 862, 3), (94, .ireturn, 1)]
set_option maxRecDepth 100000 in
theorem daX16_seal : dk_all cX16_seal drX16_seal = true := by decide +kernel
theorem dX16_seal_0 : decode cX16_seal 0 = .ok (.aload_n 0, 1) := dk_get daX16_seal 0 (r := (0, .aload_n 0, 1)) rfl
theorem dX16_seal_1 : decode cX16_seal 1 = .ok (.iload_n 1, 1) := dk_get daX16_seal 1 (r := (1, .iload_n 1, 1)) rfl
theorem dX16_seal_2 : decode cX16_seal 2 = .ok (.ifCond .lt 12, 3) := dk_get daX16_seal 2 (r := (2, .ifCond .lt 12, 3)) rfl
theorem dX16_seal_5 : decode cX16_seal 5 = .ok (.iload_n 1, 1) := dk_get daX16_seal 3 (r := (5, .iload_n 1, 1)) rfl
theorem dX16_seal_6 : decode cX16_seal 6 = .ok (.iconst 5, 1) := dk_get daX16_seal 4 (r := (6, .iconst 5, 1)) rfl
theorem dX16_seal_7 : decode cX16_seal 7 = .ok (.if_icmp .gt 7, 3) := dk_get daX16_seal 5 (r := (7, .if_icmp .gt 7, 3)) rfl
theorem dX16_seal_10 : decode cX16_seal 10 = .ok (.iconst 1, 1) := dk_get daX16_seal 6 (r := (10, .iconst 1, 1)) rfl
theorem dX16_seal_11 : decode cX16_seal 11 = .ok (.goto 4, 3) := dk_get daX16_seal 7 (r := (11, .goto 4, 3)) rfl
theorem dX16_seal_14 : decode cX16_seal 14 = .ok (.iconst 0, 1) := dk_get daX16_seal 8 (r := (14, .iconst 0, 1)) rfl
theorem dX16_seal_15 : decode cX16_seal 15 = .ok (.iconst 1, 1) := dk_get daX16_seal 9 (r := (15, .iconst 1, 1)) rfl
theorem dX16_seal_16 : decode cX16_seal 16 = .ok (.invokevirtual 891, 3) := dk_get daX16_seal 10 (r := (16, .invokevirtual 891, 3)) rfl
theorem dX16_seal_19 : decode cX16_seal 19 = .ok (.ifCond .ne 5, 3) := dk_get daX16_seal 11 (r := (19, .ifCond .ne 5, 3)) rfl
theorem dX16_seal_22 : decode cX16_seal 22 = .ok (.iconst 0, 1) := dk_get daX16_seal 12 (r := (22, .iconst 0, 1)) rfl
theorem dX16_seal_23 : decode cX16_seal 23 = .ok (.ireturn, 1) := dk_get daX16_seal 13 (r := (23, .ireturn, 1)) rfl
theorem dX16_seal_24 : decode cX16_seal 24 = .ok (.aload_n 0, 1) := dk_get daX16_seal 14 (r := (24, .aload_n 0, 1)) rfl
theorem dX16_seal_25 : decode cX16_seal 25 = .ok (.iload_n 1, 1) := dk_get daX16_seal 15 (r := (25, .iload_n 1, 1)) rfl
theorem dX16_seal_26 : decode cX16_seal 26 = .ok (.invokevirtual 875, 3) := dk_get daX16_seal 16 (r := (26, .invokevirtual 875, 3)) rfl
theorem dX16_seal_29 : decode cX16_seal 29 = .ok (.aload_n 0, 1) := dk_get daX16_seal 17 (r := (29, .aload_n 0, 1)) rfl
theorem dX16_seal_30 : decode cX16_seal 30 = .ok (.aload_n 0, 1) := dk_get daX16_seal 18 (r := (30, .aload_n 0, 1)) rfl
theorem dX16_seal_31 : decode cX16_seal 31 = .ok (.getfield 723, 3) := dk_get daX16_seal 19 (r := (31, .getfield 723, 3)) rfl
theorem dX16_seal_34 : decode cX16_seal 34 = .ok (.sipush 1600, 3) := dk_get daX16_seal 20 (r := (34, .sipush 1600, 3)) rfl
theorem dX16_seal_37 : decode cX16_seal 37 = .ok (.if_icmp .gt 7, 3) := dk_get daX16_seal 21 (r := (37, .if_icmp .gt 7, 3)) rfl
theorem dX16_seal_40 : decode cX16_seal 40 = .ok (.iconst 1, 1) := dk_get daX16_seal 22 (r := (40, .iconst 1, 1)) rfl
theorem dX16_seal_41 : decode cX16_seal 41 = .ok (.goto 4, 3) := dk_get daX16_seal 23 (r := (41, .goto 4, 3)) rfl
theorem dX16_seal_44 : decode cX16_seal 44 = .ok (.iconst 0, 1) := dk_get daX16_seal 24 (r := (44, .iconst 0, 1)) rfl
theorem dX16_seal_45 : decode cX16_seal 45 = .ok (.iconst 2, 1) := dk_get daX16_seal 25 (r := (45, .iconst 2, 1)) rfl
theorem dX16_seal_46 : decode cX16_seal 46 = .ok (.invokevirtual 891, 3) := dk_get daX16_seal 26 (r := (46, .invokevirtual 891, 3)) rfl
theorem dX16_seal_49 : decode cX16_seal 49 = .ok (.ifCond .ne 5, 3) := dk_get daX16_seal 27 (r := (49, .ifCond .ne 5, 3)) rfl
theorem dX16_seal_52 : decode cX16_seal 52 = .ok (.iconst 0, 1) := dk_get daX16_seal 28 (r := (52, .iconst 0, 1)) rfl
theorem dX16_seal_53 : decode cX16_seal 53 = .ok (.ireturn, 1) := dk_get daX16_seal 29 (r := (53, .ireturn, 1)) rfl
theorem dX16_seal_54 : decode cX16_seal 54 = .ok (.iconst 0, 1) := dk_get daX16_seal 30 (r := (54, .iconst 0, 1)) rfl
theorem dX16_seal_55 : decode cX16_seal 55 = .ok (.istore_n 2, 1) := dk_get daX16_seal 31 (r := (55, .istore_n 2, 1)) rfl
theorem dX16_seal_56 : decode cX16_seal 56 = .ok (.iload_n 2, 1) := dk_get daX16_seal 32 (r := (56, .iload_n 2, 1)) rfl
theorem dX16_seal_57 : decode cX16_seal 57 = .ok (.aload_n 0, 1) := dk_get daX16_seal 33 (r := (57, .aload_n 0, 1)) rfl
theorem dX16_seal_58 : decode cX16_seal 58 = .ok (.getfield 723, 3) := dk_get daX16_seal 34 (r := (58, .getfield 723, 3)) rfl
theorem dX16_seal_61 : decode cX16_seal 61 = .ok (.if_icmp .ge 21, 3) := dk_get daX16_seal 35 (r := (61, .if_icmp .ge 21, 3)) rfl
theorem dX16_seal_64 : decode cX16_seal 64 = .ok (.aload_n 0, 1) := dk_get daX16_seal 36 (r := (64, .aload_n 0, 1)) rfl
theorem dX16_seal_65 : decode cX16_seal 65 = .ok (.getfield 801, 3) := dk_get daX16_seal 37 (r := (65, .getfield 801, 3)) rfl
theorem dX16_seal_68 : decode cX16_seal 68 = .ok (.iload_n 2, 1) := dk_get daX16_seal 38 (r := (68, .iload_n 2, 1)) rfl
theorem dX16_seal_69 : decode cX16_seal 69 = .ok (.aload_n 0, 1) := dk_get daX16_seal 39 (r := (69, .aload_n 0, 1)) rfl
theorem dX16_seal_70 : decode cX16_seal 70 = .ok (.getfield 720, 3) := dk_get daX16_seal 40 (r := (70, .getfield 720, 3)) rfl
theorem dX16_seal_73 : decode cX16_seal 73 = .ok (.iload_n 2, 1) := dk_get daX16_seal 41 (r := (73, .iload_n 2, 1)) rfl
theorem dX16_seal_74 : decode cX16_seal 74 = .ok (.baload, 1) := dk_get daX16_seal 42 (r := (74, .baload, 1)) rfl
theorem dX16_seal_75 : decode cX16_seal 75 = .ok (.bastore, 1) := dk_get daX16_seal 43 (r := (75, .bastore, 1)) rfl
theorem dX16_seal_76 : decode cX16_seal 76 = .ok (.iinc 2 1, 3) := dk_get daX16_seal 44 (r := (76, .iinc 2 1, 3)) rfl
theorem dX16_seal_79 : decode cX16_seal 79 = .ok (.goto (-23), 3) := dk_get daX16_seal 45 (r := (79, .goto (-23), 3)) rfl
theorem dX16_seal_82 : decode cX16_seal 82 = .ok (.aload_n 0, 1) := dk_get daX16_seal 46 (r := (82, .aload_n 0, 1)) rfl
theorem dX16_seal_83 : decode cX16_seal 83 = .ok (.aload_n 0, 1) := dk_get daX16_seal 47 (r := (83, .aload_n 0, 1)) rfl
theorem dX16_seal_84 : decode cX16_seal 84 = .ok (.getfield 723, 3) := dk_get daX16_seal 48 (r := (84, .getfield 723, 3)) rfl
theorem dX16_seal_87 : decode cX16_seal 87 = .ok (.putfield 862, 3) := dk_get daX16_seal 49 (r := (87, .putfield 862, 3)) rfl
theorem dX16_seal_90 : decode cX16_seal 90 = .ok (.aload_n 0, 1) := dk_get daX16_seal 50 (r := (90, .aload_n 0, 1)) rfl
theorem dX16_seal_91 : decode cX16_seal 91 = .ok (.getfield 862, 3) := dk_get daX16_seal 51 (r := (91, .getfield 862, 3)) rfl
theorem dX16_seal_94 : decode cX16_seal 94 = .ok (.ireturn, 1) := dk_get daX16_seal 52 (r := (94, .ireturn, 1)) rfl
abbrev mX16_refuse : ks_M := (RX16, cX16_refuse, 2, (some .int), "refuse")
def drX16_refuse : List (Nat × Instr × Nat) := [(0, .aload_n 0, 1), (1, .iload_n 1, 1), (2, .putfield 926, 3), (5, .aload_n 0, 1), (6, .iconst 1, 1), (7, .putfield 888, 3), (10, .iconst 0, 1), (11, .ireturn, 1)]
set_option maxRecDepth 100000 in
theorem daX16_refuse : dk_all cX16_refuse drX16_refuse = true := by decide +kernel
theorem dX16_refuse_0 : decode cX16_refuse 0 = .ok (.aload_n 0, 1) := dk_get daX16_refuse 0 (r := (0, .aload_n 0, 1)) rfl
theorem dX16_refuse_1 : decode cX16_refuse 1 = .ok (.iload_n 1, 1) := dk_get daX16_refuse 1 (r := (1, .iload_n 1, 1)) rfl
theorem dX16_refuse_2 : decode cX16_refuse 2 = .ok (.putfield 926, 3) := dk_get daX16_refuse 2 (r := (2, .putfield 926, 3)) rfl
theorem dX16_refuse_5 : decode cX16_refuse 5 = .ok (.aload_n 0, 1) := dk_get daX16_refuse 3 (r := (5, .aload_n 0, 1)) rfl
theorem dX16_refuse_6 : decode cX16_refuse 6 = .ok (.iconst 1, 1) := dk_get daX16_refuse 4 (r := (6, .iconst 1, 1)) rfl
theorem dX16_refuse_7 : decode cX16_refuse 7 = .ok (.putfield 888, 3) := dk_get daX16_refuse 5 (r := (7, .putfield 888, 3)) rfl
theorem dX16_refuse_10 : decode cX16_refuse 10 = .ok (.iconst 0, 1) := dk_get daX16_refuse 6 (r := (10, .iconst 0, 1)) rfl
theorem dX16_refuse_11 : decode cX16_refuse 11 = .ok (.ireturn, 1) := dk_get daX16_refuse 7 (r := (11, .ireturn, 1)) rfl
abbrev mX16_judge : ks_M := (RX16, cX16_judge, 5, (some .int), "judge")
def drX16_judge : List (Nat × Instr × Nat) := [(0, .aload_n 0, 1), (1, .getfield 862, 3), (4, .istore_n 1, 1), (5, .aload_n 0, 1), (6, .iconst 0, 1), (7, .putfield 862, 3), (10, .aload_n 0, 1), (11, .iconst 0, 1), (12, .putfield 888, 3), (15, .aload_n 0, 1), (16, .aload_n 0, 1), (17, .getfield 801, 3), (20, .iload_n 1, 1), (21, .aload_n 0, 1), (22, .getfield 789, 3), (25, .invokevirtual 510, 3), (28, .ifCond .ne 9, 3), (31, .aload_n 0, 1), (32, .iconst 1, 1), (33, .invokevirtual 929, 3), (36, .ireturn, 1), (37, .aload_n 0, 1), (38, .aload_n 0, 1), (39, .getfield 801, 3), (42, .iconst 0, 1), (43, .bipush 80, 2), (45, .aload_n 0, 1), (46, .getfield 792, 3), (49, .iconst 0, 1), (50, .invokevirtual 319, 3), (53, .aload_n 0, 1), (54, .aload_n 0, 1), (55, .getfield 792, 3), (58, .iconst 0, 1), (59, .invokevirtual 932, 3), (62, .ifCond .lt 5, 3), (65, .iconst 3, 1), (66, .ireturn, 1), (67, .aload_n 0, 1), (68, .getfield 792, 3), (71, .iconst 0, 1), (72, .iconst 0, 1), (73, .aload_n 0, 1), (74, .getfield 795, 3), (77, .invokestatic 158, 3), (80, .aload_n 0, 1), (81, .aload_n 0, 1), (82, .getfield 801, 3), (85, .bipush 72, 2), (87, .iconst 4, 1), (88, .invokevirtual 267, 3), (91, .l2i, 1), (92, .aload_n 0, 1), (93, .getfield 514, 3), (96, .invokestatic 376, 3), (99, .ifCond .eq 31, 3), (102, .aload_n 0, 1), (103, .getfield 514, 3), (106, .aload_n 0, 1), (107, .getfield 387, 3), (110, .invokestatic 165, 3), (113, .ifCond .gt 17, 3), (116, .aload_n 0, 1), (117, .getfield 795, 3), (120, .aload_n 0, 1), (121, .getfield 514, 3), (124, .invokestatic 165, 3), (127, .ifCond .le 9, 3), (130, .aload_n 0, 1), (131, .iconst 2, 1), (132, .invokevirtual 929, 3), (135, .ireturn, 1), (136, .aload_n 0, 1), (137, .aload_n 0, 1), (138, .getfield 801, 3), (141, .iconst 4, 1), (142, .invokevirtual 932, 3), (145, .istore_n 2, 1), (146, .iload_n 2, 1), (147, .ifCond .ge 5, 3), (150, .iconst 4, 1), (151, .ireturn, 1), (152, .aload_n 0, 1), (153, .aload_n 0, 1), (154, .getfield 789, 3), (157, .iload_n 2, 1), (158, .invokevirtual 935, 3), (161, .istore_n 3, 1), (162, .iload_n 3, 1), (163, .ifCond .eq 9, 3), (166, .aload_n 0, 1), (167, .iload_n 3, 1), (168, .invokevirtual 929, 3), (171, .ireturn, 1), (172, .aload_n 0, 1), (173, .getfield 403, 3), (176, .bipush 60, 2), (178, .if_icmp .ne 10, 3), (181, .aload_n 0, 1), (182, .iconst 2, 1), (183, .putfield 888, 3), (186, .iconst 0, 1), (187, .ireturn, 1), (188, .aload_n 0, 1), (189, .aload_n 0, 1), (190, .getfield 801, 3), (193, .iload_n 1, 1), (194, .iload_n 2, 1), (195, .invokevirtual 878, 3), (198, .aload_n 0, 1), (199, .getfield 347, 3), (202, .aload_n 0, 1), (203, .getfield 403, 3), (206, .iconst 1, 1), (207, .isub, 1), (208, .aaload, 1), (209, .getfield 517, 3), (212, .aload_n 0, 1), (213, .getfield 347, 3), (216, .aload_n 0, 1), (217, .getfield 881, 3), (220, .aaload, 1), (221, .getfield 517, 3), (224, .invokestatic 165, 3), (227, .ifCond .gt 5, 3), (230, .iconst 1, 1), (231, .ireturn, 1), (232, .aload_n 0, 1), (233, .aload_n 0, 1), (234, .getfield 403, 3), (237, .iconst 1, 1), (238, .isub, 1), (239, .invokevirtual 938, 3), (242, .istore_n 3, 1), (243, .iload_n 3, 1), (244, .ifCond .eq 9, 3), (247, .aload_n 0, 1), (248, .iload_n 3, 1), (249, .invokevirtual 929, 3), (252, .ireturn, 1), (253, .aload_n 0, 1), (254, .invokevirtual 884, 3), (257, .iload_n 2, 1), (258, .aload_n 0, 1), (259, .getfield 881, 3), (262, .if_icmp .ne 7, 3), (265, .iconst 1, 1), (266, .goto 4, 3), (269, .iconst 0, 1), (270, .istore 4, 2), (272, .aload_n 0, 1), (273, .aload_n 0, 1), (274, .getfield 403, 3), (277, .iconst 1, 1), (278, .isub, 1), (279, .putfield 881, 3), (282, .iload 4, 2), (284, .ifCond .eq 7, 3), (287, .iconst 0, 1), (288, .goto 4, 3), (291, .iconst 2, 1), (292, .ireturn, 1)]
set_option maxRecDepth 100000 in
theorem daX16_judge : dk_all cX16_judge drX16_judge = true := by decide +kernel
theorem dX16_judge_0 : decode cX16_judge 0 = .ok (.aload_n 0, 1) := dk_get daX16_judge 0 (r := (0, .aload_n 0, 1)) rfl
theorem dX16_judge_1 : decode cX16_judge 1 = .ok (.getfield 862, 3) := dk_get daX16_judge 1 (r := (1, .getfield 862, 3)) rfl
theorem dX16_judge_4 : decode cX16_judge 4 = .ok (.istore_n 1, 1) := dk_get daX16_judge 2 (r := (4, .istore_n 1, 1)) rfl
theorem dX16_judge_5 : decode cX16_judge 5 = .ok (.aload_n 0, 1) := dk_get daX16_judge 3 (r := (5, .aload_n 0, 1)) rfl
theorem dX16_judge_6 : decode cX16_judge 6 = .ok (.iconst 0, 1) := dk_get daX16_judge 4 (r := (6, .iconst 0, 1)) rfl
theorem dX16_judge_7 : decode cX16_judge 7 = .ok (.putfield 862, 3) := dk_get daX16_judge 5 (r := (7, .putfield 862, 3)) rfl
theorem dX16_judge_10 : decode cX16_judge 10 = .ok (.aload_n 0, 1) := dk_get daX16_judge 6 (r := (10, .aload_n 0, 1)) rfl
theorem dX16_judge_11 : decode cX16_judge 11 = .ok (.iconst 0, 1) := dk_get daX16_judge 7 (r := (11, .iconst 0, 1)) rfl
theorem dX16_judge_12 : decode cX16_judge 12 = .ok (.putfield 888, 3) := dk_get daX16_judge 8 (r := (12, .putfield 888, 3)) rfl
theorem dX16_judge_15 : decode cX16_judge 15 = .ok (.aload_n 0, 1) := dk_get daX16_judge 9 (r := (15, .aload_n 0, 1)) rfl
theorem dX16_judge_16 : decode cX16_judge 16 = .ok (.aload_n 0, 1) := dk_get daX16_judge 10 (r := (16, .aload_n 0, 1)) rfl
theorem dX16_judge_17 : decode cX16_judge 17 = .ok (.getfield 801, 3) := dk_get daX16_judge 11 (r := (17, .getfield 801, 3)) rfl
theorem dX16_judge_20 : decode cX16_judge 20 = .ok (.iload_n 1, 1) := dk_get daX16_judge 12 (r := (20, .iload_n 1, 1)) rfl
theorem dX16_judge_21 : decode cX16_judge 21 = .ok (.aload_n 0, 1) := dk_get daX16_judge 13 (r := (21, .aload_n 0, 1)) rfl
theorem dX16_judge_22 : decode cX16_judge 22 = .ok (.getfield 789, 3) := dk_get daX16_judge 14 (r := (22, .getfield 789, 3)) rfl
theorem dX16_judge_25 : decode cX16_judge 25 = .ok (.invokevirtual 510, 3) := dk_get daX16_judge 15 (r := (25, .invokevirtual 510, 3)) rfl
theorem dX16_judge_28 : decode cX16_judge 28 = .ok (.ifCond .ne 9, 3) := dk_get daX16_judge 16 (r := (28, .ifCond .ne 9, 3)) rfl
theorem dX16_judge_31 : decode cX16_judge 31 = .ok (.aload_n 0, 1) := dk_get daX16_judge 17 (r := (31, .aload_n 0, 1)) rfl
theorem dX16_judge_32 : decode cX16_judge 32 = .ok (.iconst 1, 1) := dk_get daX16_judge 18 (r := (32, .iconst 1, 1)) rfl
theorem dX16_judge_33 : decode cX16_judge 33 = .ok (.invokevirtual 929, 3) := dk_get daX16_judge 19 (r := (33, .invokevirtual 929, 3)) rfl
theorem dX16_judge_36 : decode cX16_judge 36 = .ok (.ireturn, 1) := dk_get daX16_judge 20 (r := (36, .ireturn, 1)) rfl
theorem dX16_judge_37 : decode cX16_judge 37 = .ok (.aload_n 0, 1) := dk_get daX16_judge 21 (r := (37, .aload_n 0, 1)) rfl
theorem dX16_judge_38 : decode cX16_judge 38 = .ok (.aload_n 0, 1) := dk_get daX16_judge 22 (r := (38, .aload_n 0, 1)) rfl
theorem dX16_judge_39 : decode cX16_judge 39 = .ok (.getfield 801, 3) := dk_get daX16_judge 23 (r := (39, .getfield 801, 3)) rfl
theorem dX16_judge_42 : decode cX16_judge 42 = .ok (.iconst 0, 1) := dk_get daX16_judge 24 (r := (42, .iconst 0, 1)) rfl
theorem dX16_judge_43 : decode cX16_judge 43 = .ok (.bipush 80, 2) := dk_get daX16_judge 25 (r := (43, .bipush 80, 2)) rfl
theorem dX16_judge_45 : decode cX16_judge 45 = .ok (.aload_n 0, 1) := dk_get daX16_judge 26 (r := (45, .aload_n 0, 1)) rfl
theorem dX16_judge_46 : decode cX16_judge 46 = .ok (.getfield 792, 3) := dk_get daX16_judge 27 (r := (46, .getfield 792, 3)) rfl
theorem dX16_judge_49 : decode cX16_judge 49 = .ok (.iconst 0, 1) := dk_get daX16_judge 28 (r := (49, .iconst 0, 1)) rfl
theorem dX16_judge_50 : decode cX16_judge 50 = .ok (.invokevirtual 319, 3) := dk_get daX16_judge 29 (r := (50, .invokevirtual 319, 3)) rfl
theorem dX16_judge_53 : decode cX16_judge 53 = .ok (.aload_n 0, 1) := dk_get daX16_judge 30 (r := (53, .aload_n 0, 1)) rfl
theorem dX16_judge_54 : decode cX16_judge 54 = .ok (.aload_n 0, 1) := dk_get daX16_judge 31 (r := (54, .aload_n 0, 1)) rfl
theorem dX16_judge_55 : decode cX16_judge 55 = .ok (.getfield 792, 3) := dk_get daX16_judge 32 (r := (55, .getfield 792, 3)) rfl
theorem dX16_judge_58 : decode cX16_judge 58 = .ok (.iconst 0, 1) := dk_get daX16_judge 33 (r := (58, .iconst 0, 1)) rfl
theorem dX16_judge_59 : decode cX16_judge 59 = .ok (.invokevirtual 932, 3) := dk_get daX16_judge 34 (r := (59, .invokevirtual 932, 3)) rfl
theorem dX16_judge_62 : decode cX16_judge 62 = .ok (.ifCond .lt 5, 3) := dk_get daX16_judge 35 (r := (62, .ifCond .lt 5, 3)) rfl
theorem dX16_judge_65 : decode cX16_judge 65 = .ok (.iconst 3, 1) := dk_get daX16_judge 36 (r := (65, .iconst 3, 1)) rfl
theorem dX16_judge_66 : decode cX16_judge 66 = .ok (.ireturn, 1) := dk_get daX16_judge 37 (r := (66, .ireturn, 1)) rfl
theorem dX16_judge_67 : decode cX16_judge 67 = .ok (.aload_n 0, 1) := dk_get daX16_judge 38 (r := (67, .aload_n 0, 1)) rfl
theorem dX16_judge_68 : decode cX16_judge 68 = .ok (.getfield 792, 3) := dk_get daX16_judge 39 (r := (68, .getfield 792, 3)) rfl
theorem dX16_judge_71 : decode cX16_judge 71 = .ok (.iconst 0, 1) := dk_get daX16_judge 40 (r := (71, .iconst 0, 1)) rfl
theorem dX16_judge_72 : decode cX16_judge 72 = .ok (.iconst 0, 1) := dk_get daX16_judge 41 (r := (72, .iconst 0, 1)) rfl
theorem dX16_judge_73 : decode cX16_judge 73 = .ok (.aload_n 0, 1) := dk_get daX16_judge 42 (r := (73, .aload_n 0, 1)) rfl
theorem dX16_judge_74 : decode cX16_judge 74 = .ok (.getfield 795, 3) := dk_get daX16_judge 43 (r := (74, .getfield 795, 3)) rfl
theorem dX16_judge_77 : decode cX16_judge 77 = .ok (.invokestatic 158, 3) := dk_get daX16_judge 44 (r := (77, .invokestatic 158, 3)) rfl
theorem dX16_judge_80 : decode cX16_judge 80 = .ok (.aload_n 0, 1) := dk_get daX16_judge 45 (r := (80, .aload_n 0, 1)) rfl
theorem dX16_judge_81 : decode cX16_judge 81 = .ok (.aload_n 0, 1) := dk_get daX16_judge 46 (r := (81, .aload_n 0, 1)) rfl
theorem dX16_judge_82 : decode cX16_judge 82 = .ok (.getfield 801, 3) := dk_get daX16_judge 47 (r := (82, .getfield 801, 3)) rfl
theorem dX16_judge_85 : decode cX16_judge 85 = .ok (.bipush 72, 2) := dk_get daX16_judge 48 (r := (85, .bipush 72, 2)) rfl
theorem dX16_judge_87 : decode cX16_judge 87 = .ok (.iconst 4, 1) := dk_get daX16_judge 49 (r := (87, .iconst 4, 1)) rfl
theorem dX16_judge_88 : decode cX16_judge 88 = .ok (.invokevirtual 267, 3) := dk_get daX16_judge 50 (r := (88, .invokevirtual 267, 3)) rfl
theorem dX16_judge_91 : decode cX16_judge 91 = .ok (.l2i, 1) := dk_get daX16_judge 51 (r := (91, .l2i, 1)) rfl
theorem dX16_judge_92 : decode cX16_judge 92 = .ok (.aload_n 0, 1) := dk_get daX16_judge 52 (r := (92, .aload_n 0, 1)) rfl
theorem dX16_judge_93 : decode cX16_judge 93 = .ok (.getfield 514, 3) := dk_get daX16_judge 53 (r := (93, .getfield 514, 3)) rfl
theorem dX16_judge_96 : decode cX16_judge 96 = .ok (.invokestatic 376, 3) := dk_get daX16_judge 54 (r := (96, .invokestatic 376, 3)) rfl
theorem dX16_judge_99 : decode cX16_judge 99 = .ok (.ifCond .eq 31, 3) := dk_get daX16_judge 55 (r := (99, .ifCond .eq 31, 3)) rfl
theorem dX16_judge_102 : decode cX16_judge 102 = .ok (.aload_n 0, 1) := dk_get daX16_judge 56 (r := (102, .aload_n 0, 1)) rfl
theorem dX16_judge_103 : decode cX16_judge 103 = .ok (.getfield 514, 3) := dk_get daX16_judge 57 (r := (103, .getfield 514, 3)) rfl
theorem dX16_judge_106 : decode cX16_judge 106 = .ok (.aload_n 0, 1) := dk_get daX16_judge 58 (r := (106, .aload_n 0, 1)) rfl
theorem dX16_judge_107 : decode cX16_judge 107 = .ok (.getfield 387, 3) := dk_get daX16_judge 59 (r := (107, .getfield 387, 3)) rfl
theorem dX16_judge_110 : decode cX16_judge 110 = .ok (.invokestatic 165, 3) := dk_get daX16_judge 60 (r := (110, .invokestatic 165, 3)) rfl
theorem dX16_judge_113 : decode cX16_judge 113 = .ok (.ifCond .gt 17, 3) := dk_get daX16_judge 61 (r := (113, .ifCond .gt 17, 3)) rfl
theorem dX16_judge_116 : decode cX16_judge 116 = .ok (.aload_n 0, 1) := dk_get daX16_judge 62 (r := (116, .aload_n 0, 1)) rfl
theorem dX16_judge_117 : decode cX16_judge 117 = .ok (.getfield 795, 3) := dk_get daX16_judge 63 (r := (117, .getfield 795, 3)) rfl
theorem dX16_judge_120 : decode cX16_judge 120 = .ok (.aload_n 0, 1) := dk_get daX16_judge 64 (r := (120, .aload_n 0, 1)) rfl
theorem dX16_judge_121 : decode cX16_judge 121 = .ok (.getfield 514, 3) := dk_get daX16_judge 65 (r := (121, .getfield 514, 3)) rfl
theorem dX16_judge_124 : decode cX16_judge 124 = .ok (.invokestatic 165, 3) := dk_get daX16_judge 66 (r := (124, .invokestatic 165, 3)) rfl
theorem dX16_judge_127 : decode cX16_judge 127 = .ok (.ifCond .le 9, 3) := dk_get daX16_judge 67 (r := (127, .ifCond .le 9, 3)) rfl
theorem dX16_judge_130 : decode cX16_judge 130 = .ok (.aload_n 0, 1) := dk_get daX16_judge 68 (r := (130, .aload_n 0, 1)) rfl
theorem dX16_judge_131 : decode cX16_judge 131 = .ok (.iconst 2, 1) := dk_get daX16_judge 69 (r := (131, .iconst 2, 1)) rfl
theorem dX16_judge_132 : decode cX16_judge 132 = .ok (.invokevirtual 929, 3) := dk_get daX16_judge 70 (r := (132, .invokevirtual 929, 3)) rfl
theorem dX16_judge_135 : decode cX16_judge 135 = .ok (.ireturn, 1) := dk_get daX16_judge 71 (r := (135, .ireturn, 1)) rfl
theorem dX16_judge_136 : decode cX16_judge 136 = .ok (.aload_n 0, 1) := dk_get daX16_judge 72 (r := (136, .aload_n 0, 1)) rfl
theorem dX16_judge_137 : decode cX16_judge 137 = .ok (.aload_n 0, 1) := dk_get daX16_judge 73 (r := (137, .aload_n 0, 1)) rfl
theorem dX16_judge_138 : decode cX16_judge 138 = .ok (.getfield 801, 3) := dk_get daX16_judge 74 (r := (138, .getfield 801, 3)) rfl
theorem dX16_judge_141 : decode cX16_judge 141 = .ok (.iconst 4, 1) := dk_get daX16_judge 75 (r := (141, .iconst 4, 1)) rfl
theorem dX16_judge_142 : decode cX16_judge 142 = .ok (.invokevirtual 932, 3) := dk_get daX16_judge 76 (r := (142, .invokevirtual 932, 3)) rfl
theorem dX16_judge_145 : decode cX16_judge 145 = .ok (.istore_n 2, 1) := dk_get daX16_judge 77 (r := (145, .istore_n 2, 1)) rfl
theorem dX16_judge_146 : decode cX16_judge 146 = .ok (.iload_n 2, 1) := dk_get daX16_judge 78 (r := (146, .iload_n 2, 1)) rfl
theorem dX16_judge_147 : decode cX16_judge 147 = .ok (.ifCond .ge 5, 3) := dk_get daX16_judge 79 (r := (147, .ifCond .ge 5, 3)) rfl
theorem dX16_judge_150 : decode cX16_judge 150 = .ok (.iconst 4, 1) := dk_get daX16_judge 80 (r := (150, .iconst 4, 1)) rfl
theorem dX16_judge_151 : decode cX16_judge 151 = .ok (.ireturn, 1) := dk_get daX16_judge 81 (r := (151, .ireturn, 1)) rfl
theorem dX16_judge_152 : decode cX16_judge 152 = .ok (.aload_n 0, 1) := dk_get daX16_judge 82 (r := (152, .aload_n 0, 1)) rfl
theorem dX16_judge_153 : decode cX16_judge 153 = .ok (.aload_n 0, 1) := dk_get daX16_judge 83 (r := (153, .aload_n 0, 1)) rfl
theorem dX16_judge_154 : decode cX16_judge 154 = .ok (.getfield 789, 3) := dk_get daX16_judge 84 (r := (154, .getfield 789, 3)) rfl
theorem dX16_judge_157 : decode cX16_judge 157 = .ok (.iload_n 2, 1) := dk_get daX16_judge 85 (r := (157, .iload_n 2, 1)) rfl
theorem dX16_judge_158 : decode cX16_judge 158 = .ok (.invokevirtual 935, 3) := dk_get daX16_judge 86 (r := (158, .invokevirtual 935, 3)) rfl
theorem dX16_judge_161 : decode cX16_judge 161 = .ok (.istore_n 3, 1) := dk_get daX16_judge 87 (r := (161, .istore_n 3, 1)) rfl
theorem dX16_judge_162 : decode cX16_judge 162 = .ok (.iload_n 3, 1) := dk_get daX16_judge 88 (r := (162, .iload_n 3, 1)) rfl
theorem dX16_judge_163 : decode cX16_judge 163 = .ok (.ifCond .eq 9, 3) := dk_get daX16_judge 89 (r := (163, .ifCond .eq 9, 3)) rfl
theorem dX16_judge_166 : decode cX16_judge 166 = .ok (.aload_n 0, 1) := dk_get daX16_judge 90 (r := (166, .aload_n 0, 1)) rfl
theorem dX16_judge_167 : decode cX16_judge 167 = .ok (.iload_n 3, 1) := dk_get daX16_judge 91 (r := (167, .iload_n 3, 1)) rfl
theorem dX16_judge_168 : decode cX16_judge 168 = .ok (.invokevirtual 929, 3) := dk_get daX16_judge 92 (r := (168, .invokevirtual 929, 3)) rfl
theorem dX16_judge_171 : decode cX16_judge 171 = .ok (.ireturn, 1) := dk_get daX16_judge 93 (r := (171, .ireturn, 1)) rfl
theorem dX16_judge_172 : decode cX16_judge 172 = .ok (.aload_n 0, 1) := dk_get daX16_judge 94 (r := (172, .aload_n 0, 1)) rfl
theorem dX16_judge_173 : decode cX16_judge 173 = .ok (.getfield 403, 3) := dk_get daX16_judge 95 (r := (173, .getfield 403, 3)) rfl
theorem dX16_judge_176 : decode cX16_judge 176 = .ok (.bipush 60, 2) := dk_get daX16_judge 96 (r := (176, .bipush 60, 2)) rfl
theorem dX16_judge_178 : decode cX16_judge 178 = .ok (.if_icmp .ne 10, 3) := dk_get daX16_judge 97 (r := (178, .if_icmp .ne 10, 3)) rfl
theorem dX16_judge_181 : decode cX16_judge 181 = .ok (.aload_n 0, 1) := dk_get daX16_judge 98 (r := (181, .aload_n 0, 1)) rfl
theorem dX16_judge_182 : decode cX16_judge 182 = .ok (.iconst 2, 1) := dk_get daX16_judge 99 (r := (182, .iconst 2, 1)) rfl
theorem dX16_judge_183 : decode cX16_judge 183 = .ok (.putfield 888, 3) := dk_get daX16_judge 100 (r := (183, .putfield 888, 3)) rfl
theorem dX16_judge_186 : decode cX16_judge 186 = .ok (.iconst 0, 1) := dk_get daX16_judge 101 (r := (186, .iconst 0, 1)) rfl
theorem dX16_judge_187 : decode cX16_judge 187 = .ok (.ireturn, 1) := dk_get daX16_judge 102 (r := (187, .ireturn, 1)) rfl
theorem dX16_judge_188 : decode cX16_judge 188 = .ok (.aload_n 0, 1) := dk_get daX16_judge 103 (r := (188, .aload_n 0, 1)) rfl
theorem dX16_judge_189 : decode cX16_judge 189 = .ok (.aload_n 0, 1) := dk_get daX16_judge 104 (r := (189, .aload_n 0, 1)) rfl
theorem dX16_judge_190 : decode cX16_judge 190 = .ok (.getfield 801, 3) := dk_get daX16_judge 105 (r := (190, .getfield 801, 3)) rfl
theorem dX16_judge_193 : decode cX16_judge 193 = .ok (.iload_n 1, 1) := dk_get daX16_judge 106 (r := (193, .iload_n 1, 1)) rfl
theorem dX16_judge_194 : decode cX16_judge 194 = .ok (.iload_n 2, 1) := dk_get daX16_judge 107 (r := (194, .iload_n 2, 1)) rfl
theorem dX16_judge_195 : decode cX16_judge 195 = .ok (.invokevirtual 878, 3) := dk_get daX16_judge 108 (r := (195, .invokevirtual 878, 3)) rfl
theorem dX16_judge_198 : decode cX16_judge 198 = .ok (.aload_n 0, 1) := dk_get daX16_judge 109 (r := (198, .aload_n 0, 1)) rfl
theorem dX16_judge_199 : decode cX16_judge 199 = .ok (.getfield 347, 3) := dk_get daX16_judge 110 (r := (199, .getfield 347, 3)) rfl
theorem dX16_judge_202 : decode cX16_judge 202 = .ok (.aload_n 0, 1) := dk_get daX16_judge 111 (r := (202, .aload_n 0, 1)) rfl
theorem dX16_judge_203 : decode cX16_judge 203 = .ok (.getfield 403, 3) := dk_get daX16_judge 112 (r := (203, .getfield 403, 3)) rfl
theorem dX16_judge_206 : decode cX16_judge 206 = .ok (.iconst 1, 1) := dk_get daX16_judge 113 (r := (206, .iconst 1, 1)) rfl
theorem dX16_judge_207 : decode cX16_judge 207 = .ok (.isub, 1) := dk_get daX16_judge 114 (r := (207, .isub, 1)) rfl
theorem dX16_judge_208 : decode cX16_judge 208 = .ok (.aaload, 1) := dk_get daX16_judge 115 (r := (208, .aaload, 1)) rfl
theorem dX16_judge_209 : decode cX16_judge 209 = .ok (.getfield 517, 3) := dk_get daX16_judge 116 (r := (209, .getfield 517, 3)) rfl
theorem dX16_judge_212 : decode cX16_judge 212 = .ok (.aload_n 0, 1) := dk_get daX16_judge 117 (r := (212, .aload_n 0, 1)) rfl
theorem dX16_judge_213 : decode cX16_judge 213 = .ok (.getfield 347, 3) := dk_get daX16_judge 118 (r := (213, .getfield 347, 3)) rfl
theorem dX16_judge_216 : decode cX16_judge 216 = .ok (.aload_n 0, 1) := dk_get daX16_judge 119 (r := (216, .aload_n 0, 1)) rfl
theorem dX16_judge_217 : decode cX16_judge 217 = .ok (.getfield 881, 3) := dk_get daX16_judge 120 (r := (217, .getfield 881, 3)) rfl
theorem dX16_judge_220 : decode cX16_judge 220 = .ok (.aaload, 1) := dk_get daX16_judge 121 (r := (220, .aaload, 1)) rfl
theorem dX16_judge_221 : decode cX16_judge 221 = .ok (.getfield 517, 3) := dk_get daX16_judge 122 (r := (221, .getfield 517, 3)) rfl
theorem dX16_judge_224 : decode cX16_judge 224 = .ok (.invokestatic 165, 3) := dk_get daX16_judge 123 (r := (224, .invokestatic 165, 3)) rfl
theorem dX16_judge_227 : decode cX16_judge 227 = .ok (.ifCond .gt 5, 3) := dk_get daX16_judge 124 (r := (227, .ifCond .gt 5, 3)) rfl
theorem dX16_judge_230 : decode cX16_judge 230 = .ok (.iconst 1, 1) := dk_get daX16_judge 125 (r := (230, .iconst 1, 1)) rfl
theorem dX16_judge_231 : decode cX16_judge 231 = .ok (.ireturn, 1) := dk_get daX16_judge 126 (r := (231, .ireturn, 1)) rfl
theorem dX16_judge_232 : decode cX16_judge 232 = .ok (.aload_n 0, 1) := dk_get daX16_judge 127 (r := (232, .aload_n 0, 1)) rfl
theorem dX16_judge_233 : decode cX16_judge 233 = .ok (.aload_n 0, 1) := dk_get daX16_judge 128 (r := (233, .aload_n 0, 1)) rfl
theorem dX16_judge_234 : decode cX16_judge 234 = .ok (.getfield 403, 3) := dk_get daX16_judge 129 (r := (234, .getfield 403, 3)) rfl
theorem dX16_judge_237 : decode cX16_judge 237 = .ok (.iconst 1, 1) := dk_get daX16_judge 130 (r := (237, .iconst 1, 1)) rfl
theorem dX16_judge_238 : decode cX16_judge 238 = .ok (.isub, 1) := dk_get daX16_judge 131 (r := (238, .isub, 1)) rfl
theorem dX16_judge_239 : decode cX16_judge 239 = .ok (.invokevirtual 938, 3) := dk_get daX16_judge 132 (r := (239, .invokevirtual 938, 3)) rfl
theorem dX16_judge_242 : decode cX16_judge 242 = .ok (.istore_n 3, 1) := dk_get daX16_judge 133 (r := (242, .istore_n 3, 1)) rfl
theorem dX16_judge_243 : decode cX16_judge 243 = .ok (.iload_n 3, 1) := dk_get daX16_judge 134 (r := (243, .iload_n 3, 1)) rfl
theorem dX16_judge_244 : decode cX16_judge 244 = .ok (.ifCond .eq 9, 3) := dk_get daX16_judge 135 (r := (244, .ifCond .eq 9, 3)) rfl
theorem dX16_judge_247 : decode cX16_judge 247 = .ok (.aload_n 0, 1) := dk_get daX16_judge 136 (r := (247, .aload_n 0, 1)) rfl
theorem dX16_judge_248 : decode cX16_judge 248 = .ok (.iload_n 3, 1) := dk_get daX16_judge 137 (r := (248, .iload_n 3, 1)) rfl
theorem dX16_judge_249 : decode cX16_judge 249 = .ok (.invokevirtual 929, 3) := dk_get daX16_judge 138 (r := (249, .invokevirtual 929, 3)) rfl
theorem dX16_judge_252 : decode cX16_judge 252 = .ok (.ireturn, 1) := dk_get daX16_judge 139 (r := (252, .ireturn, 1)) rfl
theorem dX16_judge_253 : decode cX16_judge 253 = .ok (.aload_n 0, 1) := dk_get daX16_judge 140 (r := (253, .aload_n 0, 1)) rfl
theorem dX16_judge_254 : decode cX16_judge 254 = .ok (.invokevirtual 884, 3) := dk_get daX16_judge 141 (r := (254, .invokevirtual 884, 3)) rfl
theorem dX16_judge_257 : decode cX16_judge 257 = .ok (.iload_n 2, 1) := dk_get daX16_judge 142 (r := (257, .iload_n 2, 1)) rfl
theorem dX16_judge_258 : decode cX16_judge 258 = .ok (.aload_n 0, 1) := dk_get daX16_judge 143 (r := (258, .aload_n 0, 1)) rfl
theorem dX16_judge_259 : decode cX16_judge 259 = .ok (.getfield 881, 3) := dk_get daX16_judge 144 (r := (259, .getfield 881, 3)) rfl
theorem dX16_judge_262 : decode cX16_judge 262 = .ok (.if_icmp .ne 7, 3) := dk_get daX16_judge 145 (r := (262, .if_icmp .ne 7, 3)) rfl
theorem dX16_judge_265 : decode cX16_judge 265 = .ok (.iconst 1, 1) := dk_get daX16_judge 146 (r := (265, .iconst 1, 1)) rfl
theorem dX16_judge_266 : decode cX16_judge 266 = .ok (.goto 4, 3) := dk_get daX16_judge 147 (r := (266, .goto 4, 3)) rfl
theorem dX16_judge_269 : decode cX16_judge 269 = .ok (.iconst 0, 1) := dk_get daX16_judge 148 (r := (269, .iconst 0, 1)) rfl
theorem dX16_judge_270 : decode cX16_judge 270 = .ok (.istore 4, 2) := dk_get daX16_judge 149 (r := (270, .istore 4, 2)) rfl
theorem dX16_judge_272 : decode cX16_judge 272 = .ok (.aload_n 0, 1) := dk_get daX16_judge 150 (r := (272, .aload_n 0, 1)) rfl
theorem dX16_judge_273 : decode cX16_judge 273 = .ok (.aload_n 0, 1) := dk_get daX16_judge 151 (r := (273, .aload_n 0, 1)) rfl
theorem dX16_judge_274 : decode cX16_judge 274 = .ok (.getfield 403, 3) := dk_get daX16_judge 152 (r := (274, .getfield 403, 3)) rfl
theorem dX16_judge_277 : decode cX16_judge 277 = .ok (.iconst 1, 1) := dk_get daX16_judge 153 (r := (277, .iconst 1, 1)) rfl
theorem dX16_judge_278 : decode cX16_judge 278 = .ok (.isub, 1) := dk_get daX16_judge 154 (r := (278, .isub, 1)) rfl
theorem dX16_judge_279 : decode cX16_judge 279 = .ok (.putfield 881, 3) := dk_get daX16_judge 155 (r := (279, .putfield 881, 3)) rfl
theorem dX16_judge_282 : decode cX16_judge 282 = .ok (.iload 4, 2) := dk_get daX16_judge 156 (r := (282, .iload 4, 2)) rfl
theorem dX16_judge_284 : decode cX16_judge 284 = .ok (.ifCond .eq 7, 3) := dk_get daX16_judge 157 (r := (284, .ifCond .eq 7, 3)) rfl
theorem dX16_judge_287 : decode cX16_judge 287 = .ok (.iconst 0, 1) := dk_get daX16_judge 158 (r := (287, .iconst 0, 1)) rfl
theorem dX16_judge_288 : decode cX16_judge 288 = .ok (.goto 4, 3) := dk_get daX16_judge 159 (r := (288, .goto 4, 3)) rfl
theorem dX16_judge_291 : decode cX16_judge 291 = .ok (.iconst 2, 1) := dk_get daX16_judge 160 (r := (291, .iconst 2, 1)) rfl
theorem dX16_judge_292 : decode cX16_judge 292 = .ok (.ireturn, 1) := dk_get daX16_judge 161 (r := (292, .ireturn, 1)) rfl
abbrev mX16_tell : ks_M := (RX16, cX16_tell, 2, (some .int), "tell")
def drX16_tell : List (Nat × Instr × Nat) := [(0, .aload_n 0, 1), (1, .iload_n 1, 1), (2, .ifCond .lt 13, 3), (5, .iload_n 1, 1), (6, .bipush 6, 2), (8, .if_icmp .gt 7, 3), (11, .iconst 1, 1), (12, .goto 4, 3), (15, .iconst 0, 1), (16, .iconst 1, 1), (17, .invokevirtual 891, 3), (20, .ifCond .ne 5, 3), (23, .iconst 0, 1), (24, .ireturn, 1), (25, .iload_n 1, 1), (26, .ifCond .ne 10, 3), (29, .aload_n 0, 1), (30, .getfield 862, 3), (33, .goto 75, 3), (36, .iload_n 1, 1), (37, .iconst 1, 1), (38, .if_icmp .ne 10, 3), (41, .aload_n 0, 1), (42, .getfield 926, 3), (45, .goto 63, 3), (48, .iload_n 1, 1), (49, .iconst 2, 1), (50, .if_icmp .ne 10, 3), (53, .aload_n 0, 1), (54, .getfield 403, 3), (57, .goto 51, 3), (60, .iload_n 1, 1), (61, .iconst 3, 1), (62, .if_icmp .ne 10, 3), (65, .aload_n 0, 1), (66, .getfield 881, 3), (69, .goto 39, 3), (72, .iload_n 1, 1), (73, .iconst 4, 1), (74, .if_icmp .ne 18, 3), (77, .aload_n 0, 1), (78, .getfield 347, 3), (81, .aload_n 0, 1), (82, .getfield 881, 3), (85, .aaload, 1), (86, .getfield 363, 3), (89, .goto 19, 3), (92, .iload_n 1, 1), (93, .iconst 5, 1), (94, .if_icmp .ne 10, 3), (97, .aload_n 0, 1), (98, .getfield 497, 3), (101, .goto 7, 3), (104, .aload_n 0, 1), (105, .getfield 865, 3), (108, .ireturn, 1)]
set_option maxRecDepth 100000 in
theorem daX16_tell : dk_all cX16_tell drX16_tell = true := by decide +kernel
theorem dX16_tell_0 : decode cX16_tell 0 = .ok (.aload_n 0, 1) := dk_get daX16_tell 0 (r := (0, .aload_n 0, 1)) rfl
theorem dX16_tell_1 : decode cX16_tell 1 = .ok (.iload_n 1, 1) := dk_get daX16_tell 1 (r := (1, .iload_n 1, 1)) rfl
theorem dX16_tell_2 : decode cX16_tell 2 = .ok (.ifCond .lt 13, 3) := dk_get daX16_tell 2 (r := (2, .ifCond .lt 13, 3)) rfl
theorem dX16_tell_5 : decode cX16_tell 5 = .ok (.iload_n 1, 1) := dk_get daX16_tell 3 (r := (5, .iload_n 1, 1)) rfl
theorem dX16_tell_6 : decode cX16_tell 6 = .ok (.bipush 6, 2) := dk_get daX16_tell 4 (r := (6, .bipush 6, 2)) rfl
theorem dX16_tell_8 : decode cX16_tell 8 = .ok (.if_icmp .gt 7, 3) := dk_get daX16_tell 5 (r := (8, .if_icmp .gt 7, 3)) rfl
theorem dX16_tell_11 : decode cX16_tell 11 = .ok (.iconst 1, 1) := dk_get daX16_tell 6 (r := (11, .iconst 1, 1)) rfl
theorem dX16_tell_12 : decode cX16_tell 12 = .ok (.goto 4, 3) := dk_get daX16_tell 7 (r := (12, .goto 4, 3)) rfl
theorem dX16_tell_15 : decode cX16_tell 15 = .ok (.iconst 0, 1) := dk_get daX16_tell 8 (r := (15, .iconst 0, 1)) rfl
theorem dX16_tell_16 : decode cX16_tell 16 = .ok (.iconst 1, 1) := dk_get daX16_tell 9 (r := (16, .iconst 1, 1)) rfl
theorem dX16_tell_17 : decode cX16_tell 17 = .ok (.invokevirtual 891, 3) := dk_get daX16_tell 10 (r := (17, .invokevirtual 891, 3)) rfl
theorem dX16_tell_20 : decode cX16_tell 20 = .ok (.ifCond .ne 5, 3) := dk_get daX16_tell 11 (r := (20, .ifCond .ne 5, 3)) rfl
theorem dX16_tell_23 : decode cX16_tell 23 = .ok (.iconst 0, 1) := dk_get daX16_tell 12 (r := (23, .iconst 0, 1)) rfl
theorem dX16_tell_24 : decode cX16_tell 24 = .ok (.ireturn, 1) := dk_get daX16_tell 13 (r := (24, .ireturn, 1)) rfl
theorem dX16_tell_25 : decode cX16_tell 25 = .ok (.iload_n 1, 1) := dk_get daX16_tell 14 (r := (25, .iload_n 1, 1)) rfl
theorem dX16_tell_26 : decode cX16_tell 26 = .ok (.ifCond .ne 10, 3) := dk_get daX16_tell 15 (r := (26, .ifCond .ne 10, 3)) rfl
theorem dX16_tell_29 : decode cX16_tell 29 = .ok (.aload_n 0, 1) := dk_get daX16_tell 16 (r := (29, .aload_n 0, 1)) rfl
theorem dX16_tell_30 : decode cX16_tell 30 = .ok (.getfield 862, 3) := dk_get daX16_tell 17 (r := (30, .getfield 862, 3)) rfl
theorem dX16_tell_33 : decode cX16_tell 33 = .ok (.goto 75, 3) := dk_get daX16_tell 18 (r := (33, .goto 75, 3)) rfl
theorem dX16_tell_36 : decode cX16_tell 36 = .ok (.iload_n 1, 1) := dk_get daX16_tell 19 (r := (36, .iload_n 1, 1)) rfl
theorem dX16_tell_37 : decode cX16_tell 37 = .ok (.iconst 1, 1) := dk_get daX16_tell 20 (r := (37, .iconst 1, 1)) rfl
theorem dX16_tell_38 : decode cX16_tell 38 = .ok (.if_icmp .ne 10, 3) := dk_get daX16_tell 21 (r := (38, .if_icmp .ne 10, 3)) rfl
theorem dX16_tell_41 : decode cX16_tell 41 = .ok (.aload_n 0, 1) := dk_get daX16_tell 22 (r := (41, .aload_n 0, 1)) rfl
theorem dX16_tell_42 : decode cX16_tell 42 = .ok (.getfield 926, 3) := dk_get daX16_tell 23 (r := (42, .getfield 926, 3)) rfl
theorem dX16_tell_45 : decode cX16_tell 45 = .ok (.goto 63, 3) := dk_get daX16_tell 24 (r := (45, .goto 63, 3)) rfl
theorem dX16_tell_48 : decode cX16_tell 48 = .ok (.iload_n 1, 1) := dk_get daX16_tell 25 (r := (48, .iload_n 1, 1)) rfl
theorem dX16_tell_49 : decode cX16_tell 49 = .ok (.iconst 2, 1) := dk_get daX16_tell 26 (r := (49, .iconst 2, 1)) rfl
theorem dX16_tell_50 : decode cX16_tell 50 = .ok (.if_icmp .ne 10, 3) := dk_get daX16_tell 27 (r := (50, .if_icmp .ne 10, 3)) rfl
theorem dX16_tell_53 : decode cX16_tell 53 = .ok (.aload_n 0, 1) := dk_get daX16_tell 28 (r := (53, .aload_n 0, 1)) rfl
theorem dX16_tell_54 : decode cX16_tell 54 = .ok (.getfield 403, 3) := dk_get daX16_tell 29 (r := (54, .getfield 403, 3)) rfl
theorem dX16_tell_57 : decode cX16_tell 57 = .ok (.goto 51, 3) := dk_get daX16_tell 30 (r := (57, .goto 51, 3)) rfl
theorem dX16_tell_60 : decode cX16_tell 60 = .ok (.iload_n 1, 1) := dk_get daX16_tell 31 (r := (60, .iload_n 1, 1)) rfl
theorem dX16_tell_61 : decode cX16_tell 61 = .ok (.iconst 3, 1) := dk_get daX16_tell 32 (r := (61, .iconst 3, 1)) rfl
theorem dX16_tell_62 : decode cX16_tell 62 = .ok (.if_icmp .ne 10, 3) := dk_get daX16_tell 33 (r := (62, .if_icmp .ne 10, 3)) rfl
theorem dX16_tell_65 : decode cX16_tell 65 = .ok (.aload_n 0, 1) := dk_get daX16_tell 34 (r := (65, .aload_n 0, 1)) rfl
theorem dX16_tell_66 : decode cX16_tell 66 = .ok (.getfield 881, 3) := dk_get daX16_tell 35 (r := (66, .getfield 881, 3)) rfl
theorem dX16_tell_69 : decode cX16_tell 69 = .ok (.goto 39, 3) := dk_get daX16_tell 36 (r := (69, .goto 39, 3)) rfl
theorem dX16_tell_72 : decode cX16_tell 72 = .ok (.iload_n 1, 1) := dk_get daX16_tell 37 (r := (72, .iload_n 1, 1)) rfl
theorem dX16_tell_73 : decode cX16_tell 73 = .ok (.iconst 4, 1) := dk_get daX16_tell 38 (r := (73, .iconst 4, 1)) rfl
theorem dX16_tell_74 : decode cX16_tell 74 = .ok (.if_icmp .ne 18, 3) := dk_get daX16_tell 39 (r := (74, .if_icmp .ne 18, 3)) rfl
theorem dX16_tell_77 : decode cX16_tell 77 = .ok (.aload_n 0, 1) := dk_get daX16_tell 40 (r := (77, .aload_n 0, 1)) rfl
theorem dX16_tell_78 : decode cX16_tell 78 = .ok (.getfield 347, 3) := dk_get daX16_tell 41 (r := (78, .getfield 347, 3)) rfl
theorem dX16_tell_81 : decode cX16_tell 81 = .ok (.aload_n 0, 1) := dk_get daX16_tell 42 (r := (81, .aload_n 0, 1)) rfl
theorem dX16_tell_82 : decode cX16_tell 82 = .ok (.getfield 881, 3) := dk_get daX16_tell 43 (r := (82, .getfield 881, 3)) rfl
theorem dX16_tell_85 : decode cX16_tell 85 = .ok (.aaload, 1) := dk_get daX16_tell 44 (r := (85, .aaload, 1)) rfl
theorem dX16_tell_86 : decode cX16_tell 86 = .ok (.getfield 363, 3) := dk_get daX16_tell 45 (r := (86, .getfield 363, 3)) rfl
theorem dX16_tell_89 : decode cX16_tell 89 = .ok (.goto 19, 3) := dk_get daX16_tell 46 (r := (89, .goto 19, 3)) rfl
theorem dX16_tell_92 : decode cX16_tell 92 = .ok (.iload_n 1, 1) := dk_get daX16_tell 47 (r := (92, .iload_n 1, 1)) rfl
theorem dX16_tell_93 : decode cX16_tell 93 = .ok (.iconst 5, 1) := dk_get daX16_tell 48 (r := (93, .iconst 5, 1)) rfl
theorem dX16_tell_94 : decode cX16_tell 94 = .ok (.if_icmp .ne 10, 3) := dk_get daX16_tell 49 (r := (94, .if_icmp .ne 10, 3)) rfl
theorem dX16_tell_97 : decode cX16_tell 97 = .ok (.aload_n 0, 1) := dk_get daX16_tell 50 (r := (97, .aload_n 0, 1)) rfl
theorem dX16_tell_98 : decode cX16_tell 98 = .ok (.getfield 497, 3) := dk_get daX16_tell 51 (r := (98, .getfield 497, 3)) rfl
theorem dX16_tell_101 : decode cX16_tell 101 = .ok (.goto 7, 3) := dk_get daX16_tell 52 (r := (101, .goto 7, 3)) rfl
theorem dX16_tell_104 : decode cX16_tell 104 = .ok (.aload_n 0, 1) := dk_get daX16_tell 53 (r := (104, .aload_n 0, 1)) rfl
theorem dX16_tell_105 : decode cX16_tell 105 = .ok (.getfield 865, 3) := dk_get daX16_tell 54 (r := (105, .getfield 865, 3)) rfl
theorem dX16_tell_108 : decode cX16_tell 108 = .ok (.ireturn, 1) := dk_get daX16_tell 55 (r := (108, .ireturn, 1)) rfl
abbrev mX16_block : ks_M := (RX16, cX16_block, 4, (some .long), "block")
def drX16_block : List (Nat × Instr × Nat) := [(0, .aload_n 0, 1), (1, .iload_n 1, 1), (2, .ifCond .lt 25, 3), (5, .iload_n 1, 1), (6, .aload_n 0, 1), (7, .getfield 403, 3), (10, .if_icmp .ge 17, 3), (13, .iload_n 2, 1), (14, .ifCond .lt 13, 3), (17, .iload_n 2, 1), (18, .bipush 8, 2), (20, .if_icmp .gt 7, 3), (23, .iconst 1, 1), (24, .goto 4, 3), (27, .iconst 0, 1), (28, .iconst 1, 1), (29, .invokevirtual 891, 3), (32, .ifCond .ne 5, 3), (35, .lconst 0, 1), (36, .lreturn, 1), (37, .aload_n 0, 1), (38, .getfield 347, 3), (41, .iload_n 1, 1), (42, .aaload, 1), (43, .astore_n 3, 1), (44, .iload_n 2, 1), (45, .tableswitch 144 0 7 #[47, 53, 59, 90, 96, 102, 111, 117], 47), (92, .aload_n 3, 1), (93, .getfield 363, 3), (96, .i2l, 1), (97, .lreturn, 1), (98, .aload_n 3, 1), (99, .getfield 354, 3), (102, .i2l, 1), (103, .lreturn, 1), (104, .aload_n 3, 1), (105, .getfield 432, 3), (108, .ifCond .eq 9, 3), (111, .ldc2_w 924, 3), (114, .goto 20, 3), (117, .aload_n 0, 1), (118, .iload_n 1, 1), (119, .aload_n 0, 1), (120, .getfield 881, 3), (123, .invokevirtual 493, 3), (126, .ifCond .eq 7, 3), (129, .lconst 1, 1), (130, .goto 4, 3), (133, .lconst 0, 1), (134, .lreturn, 1), (135, .aload_n 0, 1), (136, .iload_n 1, 1), (137, .invokevirtual 357, 3), (140, .lreturn, 1), (141, .aload_n 0, 1), (142, .iload_n 1, 1), (143, .invokevirtual 366, 3), (146, .lreturn, 1), (147, .aload_n 3, 1), (148, .getfield 457, 3), (151, .getfield 288, 3), (154, .i2l, 1), (155, .lreturn, 1), (156, .aload_n 3, 1), (157, .getfield 507, 3), (160, .i2l, 1), (161, .lreturn, 1), (162, .aload_n 3, 1), (163, .getfield 517, 3), (166, .iconst 1, 1), (167, .iaload, 1), (168, .i2l, 1), (169, .ldc2_w 380, 3), (172, .land, 1), (173, .bipush 32, 2), (175, .lshl, 1), (176, .aload_n 3, 1), (177, .getfield 517, 3), (180, .iconst 0, 1), (181, .iaload, 1), (182, .i2l, 1), (183, .ldc2_w 380, 3), (186, .land, 1), (187, .lor, 1), (188, .lreturn, 1), (189, .aload_n 0, 1), (190, .iload_n 1, 1), (191, .invokevirtual 438, 3), (194, .lreturn, 1)]
set_option maxRecDepth 100000 in
theorem daX16_block : dk_all cX16_block drX16_block = true := by decide +kernel
theorem dX16_block_0 : decode cX16_block 0 = .ok (.aload_n 0, 1) := dk_get daX16_block 0 (r := (0, .aload_n 0, 1)) rfl
theorem dX16_block_1 : decode cX16_block 1 = .ok (.iload_n 1, 1) := dk_get daX16_block 1 (r := (1, .iload_n 1, 1)) rfl
theorem dX16_block_2 : decode cX16_block 2 = .ok (.ifCond .lt 25, 3) := dk_get daX16_block 2 (r := (2, .ifCond .lt 25, 3)) rfl
theorem dX16_block_5 : decode cX16_block 5 = .ok (.iload_n 1, 1) := dk_get daX16_block 3 (r := (5, .iload_n 1, 1)) rfl
theorem dX16_block_6 : decode cX16_block 6 = .ok (.aload_n 0, 1) := dk_get daX16_block 4 (r := (6, .aload_n 0, 1)) rfl
theorem dX16_block_7 : decode cX16_block 7 = .ok (.getfield 403, 3) := dk_get daX16_block 5 (r := (7, .getfield 403, 3)) rfl
theorem dX16_block_10 : decode cX16_block 10 = .ok (.if_icmp .ge 17, 3) := dk_get daX16_block 6 (r := (10, .if_icmp .ge 17, 3)) rfl
theorem dX16_block_13 : decode cX16_block 13 = .ok (.iload_n 2, 1) := dk_get daX16_block 7 (r := (13, .iload_n 2, 1)) rfl
theorem dX16_block_14 : decode cX16_block 14 = .ok (.ifCond .lt 13, 3) := dk_get daX16_block 8 (r := (14, .ifCond .lt 13, 3)) rfl
theorem dX16_block_17 : decode cX16_block 17 = .ok (.iload_n 2, 1) := dk_get daX16_block 9 (r := (17, .iload_n 2, 1)) rfl
theorem dX16_block_18 : decode cX16_block 18 = .ok (.bipush 8, 2) := dk_get daX16_block 10 (r := (18, .bipush 8, 2)) rfl
theorem dX16_block_20 : decode cX16_block 20 = .ok (.if_icmp .gt 7, 3) := dk_get daX16_block 11 (r := (20, .if_icmp .gt 7, 3)) rfl
theorem dX16_block_23 : decode cX16_block 23 = .ok (.iconst 1, 1) := dk_get daX16_block 12 (r := (23, .iconst 1, 1)) rfl
theorem dX16_block_24 : decode cX16_block 24 = .ok (.goto 4, 3) := dk_get daX16_block 13 (r := (24, .goto 4, 3)) rfl
theorem dX16_block_27 : decode cX16_block 27 = .ok (.iconst 0, 1) := dk_get daX16_block 14 (r := (27, .iconst 0, 1)) rfl
theorem dX16_block_28 : decode cX16_block 28 = .ok (.iconst 1, 1) := dk_get daX16_block 15 (r := (28, .iconst 1, 1)) rfl
theorem dX16_block_29 : decode cX16_block 29 = .ok (.invokevirtual 891, 3) := dk_get daX16_block 16 (r := (29, .invokevirtual 891, 3)) rfl
theorem dX16_block_32 : decode cX16_block 32 = .ok (.ifCond .ne 5, 3) := dk_get daX16_block 17 (r := (32, .ifCond .ne 5, 3)) rfl
theorem dX16_block_35 : decode cX16_block 35 = .ok (.lconst 0, 1) := dk_get daX16_block 18 (r := (35, .lconst 0, 1)) rfl
theorem dX16_block_36 : decode cX16_block 36 = .ok (.lreturn, 1) := dk_get daX16_block 19 (r := (36, .lreturn, 1)) rfl
theorem dX16_block_37 : decode cX16_block 37 = .ok (.aload_n 0, 1) := dk_get daX16_block 20 (r := (37, .aload_n 0, 1)) rfl
theorem dX16_block_38 : decode cX16_block 38 = .ok (.getfield 347, 3) := dk_get daX16_block 21 (r := (38, .getfield 347, 3)) rfl
theorem dX16_block_41 : decode cX16_block 41 = .ok (.iload_n 1, 1) := dk_get daX16_block 22 (r := (41, .iload_n 1, 1)) rfl
theorem dX16_block_42 : decode cX16_block 42 = .ok (.aaload, 1) := dk_get daX16_block 23 (r := (42, .aaload, 1)) rfl
theorem dX16_block_43 : decode cX16_block 43 = .ok (.astore_n 3, 1) := dk_get daX16_block 24 (r := (43, .astore_n 3, 1)) rfl
theorem dX16_block_44 : decode cX16_block 44 = .ok (.iload_n 2, 1) := dk_get daX16_block 25 (r := (44, .iload_n 2, 1)) rfl
theorem dX16_block_45 : decode cX16_block 45 = .ok (.tableswitch 144 0 7 #[47, 53, 59, 90, 96, 102, 111, 117], 47) := dk_get daX16_block 26 (r := (45, .tableswitch 144 0 7 #[47, 53, 59, 90, 96, 102, 111, 117], 47)) rfl
theorem dX16_block_92 : decode cX16_block 92 = .ok (.aload_n 3, 1) := dk_get daX16_block 27 (r := (92, .aload_n 3, 1)) rfl
theorem dX16_block_93 : decode cX16_block 93 = .ok (.getfield 363, 3) := dk_get daX16_block 28 (r := (93, .getfield 363, 3)) rfl
theorem dX16_block_96 : decode cX16_block 96 = .ok (.i2l, 1) := dk_get daX16_block 29 (r := (96, .i2l, 1)) rfl
theorem dX16_block_97 : decode cX16_block 97 = .ok (.lreturn, 1) := dk_get daX16_block 30 (r := (97, .lreturn, 1)) rfl
theorem dX16_block_98 : decode cX16_block 98 = .ok (.aload_n 3, 1) := dk_get daX16_block 31 (r := (98, .aload_n 3, 1)) rfl
theorem dX16_block_99 : decode cX16_block 99 = .ok (.getfield 354, 3) := dk_get daX16_block 32 (r := (99, .getfield 354, 3)) rfl
theorem dX16_block_102 : decode cX16_block 102 = .ok (.i2l, 1) := dk_get daX16_block 33 (r := (102, .i2l, 1)) rfl
theorem dX16_block_103 : decode cX16_block 103 = .ok (.lreturn, 1) := dk_get daX16_block 34 (r := (103, .lreturn, 1)) rfl
theorem dX16_block_104 : decode cX16_block 104 = .ok (.aload_n 3, 1) := dk_get daX16_block 35 (r := (104, .aload_n 3, 1)) rfl
theorem dX16_block_105 : decode cX16_block 105 = .ok (.getfield 432, 3) := dk_get daX16_block 36 (r := (105, .getfield 432, 3)) rfl
theorem dX16_block_108 : decode cX16_block 108 = .ok (.ifCond .eq 9, 3) := dk_get daX16_block 37 (r := (108, .ifCond .eq 9, 3)) rfl
theorem dX16_block_111 : decode cX16_block 111 = .ok (.ldc2_w 924, 3) := dk_get daX16_block 38 (r := (111, .ldc2_w 924, 3)) rfl
theorem dX16_block_114 : decode cX16_block 114 = .ok (.goto 20, 3) := dk_get daX16_block 39 (r := (114, .goto 20, 3)) rfl
theorem dX16_block_117 : decode cX16_block 117 = .ok (.aload_n 0, 1) := dk_get daX16_block 40 (r := (117, .aload_n 0, 1)) rfl
theorem dX16_block_118 : decode cX16_block 118 = .ok (.iload_n 1, 1) := dk_get daX16_block 41 (r := (118, .iload_n 1, 1)) rfl
theorem dX16_block_119 : decode cX16_block 119 = .ok (.aload_n 0, 1) := dk_get daX16_block 42 (r := (119, .aload_n 0, 1)) rfl
theorem dX16_block_120 : decode cX16_block 120 = .ok (.getfield 881, 3) := dk_get daX16_block 43 (r := (120, .getfield 881, 3)) rfl
theorem dX16_block_123 : decode cX16_block 123 = .ok (.invokevirtual 493, 3) := dk_get daX16_block 44 (r := (123, .invokevirtual 493, 3)) rfl
theorem dX16_block_126 : decode cX16_block 126 = .ok (.ifCond .eq 7, 3) := dk_get daX16_block 45 (r := (126, .ifCond .eq 7, 3)) rfl
theorem dX16_block_129 : decode cX16_block 129 = .ok (.lconst 1, 1) := dk_get daX16_block 46 (r := (129, .lconst 1, 1)) rfl
theorem dX16_block_130 : decode cX16_block 130 = .ok (.goto 4, 3) := dk_get daX16_block 47 (r := (130, .goto 4, 3)) rfl
theorem dX16_block_133 : decode cX16_block 133 = .ok (.lconst 0, 1) := dk_get daX16_block 48 (r := (133, .lconst 0, 1)) rfl
theorem dX16_block_134 : decode cX16_block 134 = .ok (.lreturn, 1) := dk_get daX16_block 49 (r := (134, .lreturn, 1)) rfl
theorem dX16_block_135 : decode cX16_block 135 = .ok (.aload_n 0, 1) := dk_get daX16_block 50 (r := (135, .aload_n 0, 1)) rfl
theorem dX16_block_136 : decode cX16_block 136 = .ok (.iload_n 1, 1) := dk_get daX16_block 51 (r := (136, .iload_n 1, 1)) rfl
theorem dX16_block_137 : decode cX16_block 137 = .ok (.invokevirtual 357, 3) := dk_get daX16_block 52 (r := (137, .invokevirtual 357, 3)) rfl
theorem dX16_block_140 : decode cX16_block 140 = .ok (.lreturn, 1) := dk_get daX16_block 53 (r := (140, .lreturn, 1)) rfl
theorem dX16_block_141 : decode cX16_block 141 = .ok (.aload_n 0, 1) := dk_get daX16_block 54 (r := (141, .aload_n 0, 1)) rfl
theorem dX16_block_142 : decode cX16_block 142 = .ok (.iload_n 1, 1) := dk_get daX16_block 55 (r := (142, .iload_n 1, 1)) rfl
theorem dX16_block_143 : decode cX16_block 143 = .ok (.invokevirtual 366, 3) := dk_get daX16_block 56 (r := (143, .invokevirtual 366, 3)) rfl
theorem dX16_block_146 : decode cX16_block 146 = .ok (.lreturn, 1) := dk_get daX16_block 57 (r := (146, .lreturn, 1)) rfl
theorem dX16_block_147 : decode cX16_block 147 = .ok (.aload_n 3, 1) := dk_get daX16_block 58 (r := (147, .aload_n 3, 1)) rfl
theorem dX16_block_148 : decode cX16_block 148 = .ok (.getfield 457, 3) := dk_get daX16_block 59 (r := (148, .getfield 457, 3)) rfl
theorem dX16_block_151 : decode cX16_block 151 = .ok (.getfield 288, 3) := dk_get daX16_block 60 (r := (151, .getfield 288, 3)) rfl
theorem dX16_block_154 : decode cX16_block 154 = .ok (.i2l, 1) := dk_get daX16_block 61 (r := (154, .i2l, 1)) rfl
theorem dX16_block_155 : decode cX16_block 155 = .ok (.lreturn, 1) := dk_get daX16_block 62 (r := (155, .lreturn, 1)) rfl
theorem dX16_block_156 : decode cX16_block 156 = .ok (.aload_n 3, 1) := dk_get daX16_block 63 (r := (156, .aload_n 3, 1)) rfl
theorem dX16_block_157 : decode cX16_block 157 = .ok (.getfield 507, 3) := dk_get daX16_block 64 (r := (157, .getfield 507, 3)) rfl
theorem dX16_block_160 : decode cX16_block 160 = .ok (.i2l, 1) := dk_get daX16_block 65 (r := (160, .i2l, 1)) rfl
theorem dX16_block_161 : decode cX16_block 161 = .ok (.lreturn, 1) := dk_get daX16_block 66 (r := (161, .lreturn, 1)) rfl
theorem dX16_block_162 : decode cX16_block 162 = .ok (.aload_n 3, 1) := dk_get daX16_block 67 (r := (162, .aload_n 3, 1)) rfl
theorem dX16_block_163 : decode cX16_block 163 = .ok (.getfield 517, 3) := dk_get daX16_block 68 (r := (163, .getfield 517, 3)) rfl
theorem dX16_block_166 : decode cX16_block 166 = .ok (.iconst 1, 1) := dk_get daX16_block 69 (r := (166, .iconst 1, 1)) rfl
theorem dX16_block_167 : decode cX16_block 167 = .ok (.iaload, 1) := dk_get daX16_block 70 (r := (167, .iaload, 1)) rfl
theorem dX16_block_168 : decode cX16_block 168 = .ok (.i2l, 1) := dk_get daX16_block 71 (r := (168, .i2l, 1)) rfl
theorem dX16_block_169 : decode cX16_block 169 = .ok (.ldc2_w 380, 3) := dk_get daX16_block 72 (r := (169, .ldc2_w 380, 3)) rfl
theorem dX16_block_172 : decode cX16_block 172 = .ok (.land, 1) := dk_get daX16_block 73 (r := (172, .land, 1)) rfl
theorem dX16_block_173 : decode cX16_block 173 = .ok (.bipush 32, 2) := dk_get daX16_block 74 (r := (173, .bipush 32, 2)) rfl
theorem dX16_block_175 : decode cX16_block 175 = .ok (.lshl, 1) := dk_get daX16_block 75 (r := (175, .lshl, 1)) rfl
theorem dX16_block_176 : decode cX16_block 176 = .ok (.aload_n 3, 1) := dk_get daX16_block 76 (r := (176, .aload_n 3, 1)) rfl
theorem dX16_block_177 : decode cX16_block 177 = .ok (.getfield 517, 3) := dk_get daX16_block 77 (r := (177, .getfield 517, 3)) rfl
theorem dX16_block_180 : decode cX16_block 180 = .ok (.iconst 0, 1) := dk_get daX16_block 78 (r := (180, .iconst 0, 1)) rfl
theorem dX16_block_181 : decode cX16_block 181 = .ok (.iaload, 1) := dk_get daX16_block 79 (r := (181, .iaload, 1)) rfl
theorem dX16_block_182 : decode cX16_block 182 = .ok (.i2l, 1) := dk_get daX16_block 80 (r := (182, .i2l, 1)) rfl
theorem dX16_block_183 : decode cX16_block 183 = .ok (.ldc2_w 380, 3) := dk_get daX16_block 81 (r := (183, .ldc2_w 380, 3)) rfl
theorem dX16_block_186 : decode cX16_block 186 = .ok (.land, 1) := dk_get daX16_block 82 (r := (186, .land, 1)) rfl
theorem dX16_block_187 : decode cX16_block 187 = .ok (.lor, 1) := dk_get daX16_block 83 (r := (187, .lor, 1)) rfl
theorem dX16_block_188 : decode cX16_block 188 = .ok (.lreturn, 1) := dk_get daX16_block 84 (r := (188, .lreturn, 1)) rfl
theorem dX16_block_189 : decode cX16_block 189 = .ok (.aload_n 0, 1) := dk_get daX16_block 85 (r := (189, .aload_n 0, 1)) rfl
theorem dX16_block_190 : decode cX16_block 190 = .ok (.iload_n 1, 1) := dk_get daX16_block 86 (r := (190, .iload_n 1, 1)) rfl
theorem dX16_block_191 : decode cX16_block 191 = .ok (.invokevirtual 438, 3) := dk_get daX16_block 87 (r := (191, .invokevirtual 438, 3)) rfl
theorem dX16_block_194 : decode cX16_block 194 = .ok (.lreturn, 1) := dk_get daX16_block 88 (r := (194, .lreturn, 1)) rfl
abbrev mX16_coin : ks_M := (RX16, cX16_coin, 5, (some .long), "coin")
def drX16_coin : List (Nat × Instr × Nat) := [(0, .aload_n 0, 1), (1, .iload_n 1, 1), (2, .ifCond .lt 35, 3), (5, .iload_n 1, 1), (6, .aload_n 0, 1), (7, .getfield 403, 3), (10, .if_icmp .ge 27, 3), (13, .iload_n 2, 1), (14, .ifCond .lt 23, 3), (17, .iload_n 2, 1), (18, .aload_n 0, 1), (19, .getfield 347, 3), (22, .iload_n 1, 1), (23, .aaload, 1), (24, .getfield 457, 3), (27, .getfield 288, 3), (30, .if_icmp .ge 7, 3), (33, .iconst 1, 1), (34, .goto 4, 3), (37, .iconst 0, 1), (38, .iconst 1, 1), (39, .invokevirtual 891, 3), (42, .ifCond .ne 5, 3), (45, .lconst 0, 1), (46, .lreturn, 1), (47, .aload_n 0, 1), (48, .aload_n 0, 1), (49, .getfield 347, 3), (52, .iload_n 1, 1), (53, .aaload, 1), (54, .getfield 457, 3), (57, .getfield 316, 3), (60, .bipush 32, 2), (62, .iload_n 2, 1), (63, .imul, 1), (64, .iload_n 3, 1), (65, .i2l, 1), (66, .ldc2_w 380, 3), (69, .land, 1), (70, .aload_n 0, 1), (71, .getfield 500, 3), (74, .aload_n 0, 1), (75, .getfield 497, 3), (78, .invokevirtual 467, 3), (81, .istore 4, 2), (83, .iload 4, 2), (85, .ifCond .ge 9, 3), (88, .ldc2_w 668, 3), (91, .goto 14, 3), (94, .aload_n 0, 1), (95, .aload_n 0, 1), (96, .getfield 500, 3), (99, .iload 4, 2), (101, .iaload, 1), (102, .invokevirtual 471, 3), (105, .lreturn, 1)]
set_option maxRecDepth 100000 in
theorem daX16_coin : dk_all cX16_coin drX16_coin = true := by decide +kernel
theorem dX16_coin_0 : decode cX16_coin 0 = .ok (.aload_n 0, 1) := dk_get daX16_coin 0 (r := (0, .aload_n 0, 1)) rfl
theorem dX16_coin_1 : decode cX16_coin 1 = .ok (.iload_n 1, 1) := dk_get daX16_coin 1 (r := (1, .iload_n 1, 1)) rfl
theorem dX16_coin_2 : decode cX16_coin 2 = .ok (.ifCond .lt 35, 3) := dk_get daX16_coin 2 (r := (2, .ifCond .lt 35, 3)) rfl
theorem dX16_coin_5 : decode cX16_coin 5 = .ok (.iload_n 1, 1) := dk_get daX16_coin 3 (r := (5, .iload_n 1, 1)) rfl
theorem dX16_coin_6 : decode cX16_coin 6 = .ok (.aload_n 0, 1) := dk_get daX16_coin 4 (r := (6, .aload_n 0, 1)) rfl
theorem dX16_coin_7 : decode cX16_coin 7 = .ok (.getfield 403, 3) := dk_get daX16_coin 5 (r := (7, .getfield 403, 3)) rfl
theorem dX16_coin_10 : decode cX16_coin 10 = .ok (.if_icmp .ge 27, 3) := dk_get daX16_coin 6 (r := (10, .if_icmp .ge 27, 3)) rfl
theorem dX16_coin_13 : decode cX16_coin 13 = .ok (.iload_n 2, 1) := dk_get daX16_coin 7 (r := (13, .iload_n 2, 1)) rfl
theorem dX16_coin_14 : decode cX16_coin 14 = .ok (.ifCond .lt 23, 3) := dk_get daX16_coin 8 (r := (14, .ifCond .lt 23, 3)) rfl
theorem dX16_coin_17 : decode cX16_coin 17 = .ok (.iload_n 2, 1) := dk_get daX16_coin 9 (r := (17, .iload_n 2, 1)) rfl
theorem dX16_coin_18 : decode cX16_coin 18 = .ok (.aload_n 0, 1) := dk_get daX16_coin 10 (r := (18, .aload_n 0, 1)) rfl
theorem dX16_coin_19 : decode cX16_coin 19 = .ok (.getfield 347, 3) := dk_get daX16_coin 11 (r := (19, .getfield 347, 3)) rfl
theorem dX16_coin_22 : decode cX16_coin 22 = .ok (.iload_n 1, 1) := dk_get daX16_coin 12 (r := (22, .iload_n 1, 1)) rfl
theorem dX16_coin_23 : decode cX16_coin 23 = .ok (.aaload, 1) := dk_get daX16_coin 13 (r := (23, .aaload, 1)) rfl
theorem dX16_coin_24 : decode cX16_coin 24 = .ok (.getfield 457, 3) := dk_get daX16_coin 14 (r := (24, .getfield 457, 3)) rfl
theorem dX16_coin_27 : decode cX16_coin 27 = .ok (.getfield 288, 3) := dk_get daX16_coin 15 (r := (27, .getfield 288, 3)) rfl
theorem dX16_coin_30 : decode cX16_coin 30 = .ok (.if_icmp .ge 7, 3) := dk_get daX16_coin 16 (r := (30, .if_icmp .ge 7, 3)) rfl
theorem dX16_coin_33 : decode cX16_coin 33 = .ok (.iconst 1, 1) := dk_get daX16_coin 17 (r := (33, .iconst 1, 1)) rfl
theorem dX16_coin_34 : decode cX16_coin 34 = .ok (.goto 4, 3) := dk_get daX16_coin 18 (r := (34, .goto 4, 3)) rfl
theorem dX16_coin_37 : decode cX16_coin 37 = .ok (.iconst 0, 1) := dk_get daX16_coin 19 (r := (37, .iconst 0, 1)) rfl
theorem dX16_coin_38 : decode cX16_coin 38 = .ok (.iconst 1, 1) := dk_get daX16_coin 20 (r := (38, .iconst 1, 1)) rfl
theorem dX16_coin_39 : decode cX16_coin 39 = .ok (.invokevirtual 891, 3) := dk_get daX16_coin 21 (r := (39, .invokevirtual 891, 3)) rfl
theorem dX16_coin_42 : decode cX16_coin 42 = .ok (.ifCond .ne 5, 3) := dk_get daX16_coin 22 (r := (42, .ifCond .ne 5, 3)) rfl
theorem dX16_coin_45 : decode cX16_coin 45 = .ok (.lconst 0, 1) := dk_get daX16_coin 23 (r := (45, .lconst 0, 1)) rfl
theorem dX16_coin_46 : decode cX16_coin 46 = .ok (.lreturn, 1) := dk_get daX16_coin 24 (r := (46, .lreturn, 1)) rfl
theorem dX16_coin_47 : decode cX16_coin 47 = .ok (.aload_n 0, 1) := dk_get daX16_coin 25 (r := (47, .aload_n 0, 1)) rfl
theorem dX16_coin_48 : decode cX16_coin 48 = .ok (.aload_n 0, 1) := dk_get daX16_coin 26 (r := (48, .aload_n 0, 1)) rfl
theorem dX16_coin_49 : decode cX16_coin 49 = .ok (.getfield 347, 3) := dk_get daX16_coin 27 (r := (49, .getfield 347, 3)) rfl
theorem dX16_coin_52 : decode cX16_coin 52 = .ok (.iload_n 1, 1) := dk_get daX16_coin 28 (r := (52, .iload_n 1, 1)) rfl
theorem dX16_coin_53 : decode cX16_coin 53 = .ok (.aaload, 1) := dk_get daX16_coin 29 (r := (53, .aaload, 1)) rfl
theorem dX16_coin_54 : decode cX16_coin 54 = .ok (.getfield 457, 3) := dk_get daX16_coin 30 (r := (54, .getfield 457, 3)) rfl
theorem dX16_coin_57 : decode cX16_coin 57 = .ok (.getfield 316, 3) := dk_get daX16_coin 31 (r := (57, .getfield 316, 3)) rfl
theorem dX16_coin_60 : decode cX16_coin 60 = .ok (.bipush 32, 2) := dk_get daX16_coin 32 (r := (60, .bipush 32, 2)) rfl
theorem dX16_coin_62 : decode cX16_coin 62 = .ok (.iload_n 2, 1) := dk_get daX16_coin 33 (r := (62, .iload_n 2, 1)) rfl
theorem dX16_coin_63 : decode cX16_coin 63 = .ok (.imul, 1) := dk_get daX16_coin 34 (r := (63, .imul, 1)) rfl
theorem dX16_coin_64 : decode cX16_coin 64 = .ok (.iload_n 3, 1) := dk_get daX16_coin 35 (r := (64, .iload_n 3, 1)) rfl
theorem dX16_coin_65 : decode cX16_coin 65 = .ok (.i2l, 1) := dk_get daX16_coin 36 (r := (65, .i2l, 1)) rfl
theorem dX16_coin_66 : decode cX16_coin 66 = .ok (.ldc2_w 380, 3) := dk_get daX16_coin 37 (r := (66, .ldc2_w 380, 3)) rfl
theorem dX16_coin_69 : decode cX16_coin 69 = .ok (.land, 1) := dk_get daX16_coin 38 (r := (69, .land, 1)) rfl
theorem dX16_coin_70 : decode cX16_coin 70 = .ok (.aload_n 0, 1) := dk_get daX16_coin 39 (r := (70, .aload_n 0, 1)) rfl
theorem dX16_coin_71 : decode cX16_coin 71 = .ok (.getfield 500, 3) := dk_get daX16_coin 40 (r := (71, .getfield 500, 3)) rfl
theorem dX16_coin_74 : decode cX16_coin 74 = .ok (.aload_n 0, 1) := dk_get daX16_coin 41 (r := (74, .aload_n 0, 1)) rfl
theorem dX16_coin_75 : decode cX16_coin 75 = .ok (.getfield 497, 3) := dk_get daX16_coin 42 (r := (75, .getfield 497, 3)) rfl
theorem dX16_coin_78 : decode cX16_coin 78 = .ok (.invokevirtual 467, 3) := dk_get daX16_coin 43 (r := (78, .invokevirtual 467, 3)) rfl
theorem dX16_coin_81 : decode cX16_coin 81 = .ok (.istore 4, 2) := dk_get daX16_coin 44 (r := (81, .istore 4, 2)) rfl
theorem dX16_coin_83 : decode cX16_coin 83 = .ok (.iload 4, 2) := dk_get daX16_coin 45 (r := (83, .iload 4, 2)) rfl
theorem dX16_coin_85 : decode cX16_coin 85 = .ok (.ifCond .ge 9, 3) := dk_get daX16_coin 46 (r := (85, .ifCond .ge 9, 3)) rfl
theorem dX16_coin_88 : decode cX16_coin 88 = .ok (.ldc2_w 668, 3) := dk_get daX16_coin 47 (r := (88, .ldc2_w 668, 3)) rfl
theorem dX16_coin_91 : decode cX16_coin 91 = .ok (.goto 14, 3) := dk_get daX16_coin 48 (r := (91, .goto 14, 3)) rfl
theorem dX16_coin_94 : decode cX16_coin 94 = .ok (.aload_n 0, 1) := dk_get daX16_coin 49 (r := (94, .aload_n 0, 1)) rfl
theorem dX16_coin_95 : decode cX16_coin 95 = .ok (.aload_n 0, 1) := dk_get daX16_coin 50 (r := (95, .aload_n 0, 1)) rfl
theorem dX16_coin_96 : decode cX16_coin 96 = .ok (.getfield 500, 3) := dk_get daX16_coin 51 (r := (96, .getfield 500, 3)) rfl
theorem dX16_coin_99 : decode cX16_coin 99 = .ok (.iload 4, 2) := dk_get daX16_coin 52 (r := (99, .iload 4, 2)) rfl
theorem dX16_coin_101 : decode cX16_coin 101 = .ok (.iaload, 1) := dk_get daX16_coin 53 (r := (101, .iaload, 1)) rfl
theorem dX16_coin_102 : decode cX16_coin 102 = .ok (.invokevirtual 471, 3) := dk_get daX16_coin 54 (r := (102, .invokevirtual 471, 3)) rfl
theorem dX16_coin_105 : decode cX16_coin 105 = .ok (.lreturn, 1) := dk_get daX16_coin 55 (r := (105, .lreturn, 1)) rfl
abbrev mX16_coins : ks_M := (RX16, cX16_coins, 4, (some .long), "coins")
def drX16_coins : List (Nat × Instr × Nat) := [(0, .lconst 0, 1), (1, .lstore_n 1, 1), (2, .iconst 0, 1), (3, .istore_n 3, 1), (4, .iload_n 3, 1), (5, .aload_n 0, 1), (6, .getfield 497, 3), (9, .if_icmp .ge 22, 3), (12, .lload_n 1, 1), (13, .aload_n 0, 1), (14, .aload_n 0, 1), (15, .getfield 500, 3), (18, .iload_n 3, 1), (19, .iaload, 1), (20, .invokevirtual 471, 3), (23, .ladd, 1), (24, .lstore_n 1, 1), (25, .iinc 3 1, 3), (28, .goto (-24), 3), (31, .lload_n 1, 1), (32, .lreturn, 1)]
set_option maxRecDepth 100000 in
theorem daX16_coins : dk_all cX16_coins drX16_coins = true := by decide +kernel
theorem dX16_coins_0 : decode cX16_coins 0 = .ok (.lconst 0, 1) := dk_get daX16_coins 0 (r := (0, .lconst 0, 1)) rfl
theorem dX16_coins_1 : decode cX16_coins 1 = .ok (.lstore_n 1, 1) := dk_get daX16_coins 1 (r := (1, .lstore_n 1, 1)) rfl
theorem dX16_coins_2 : decode cX16_coins 2 = .ok (.iconst 0, 1) := dk_get daX16_coins 2 (r := (2, .iconst 0, 1)) rfl
theorem dX16_coins_3 : decode cX16_coins 3 = .ok (.istore_n 3, 1) := dk_get daX16_coins 3 (r := (3, .istore_n 3, 1)) rfl
theorem dX16_coins_4 : decode cX16_coins 4 = .ok (.iload_n 3, 1) := dk_get daX16_coins 4 (r := (4, .iload_n 3, 1)) rfl
theorem dX16_coins_5 : decode cX16_coins 5 = .ok (.aload_n 0, 1) := dk_get daX16_coins 5 (r := (5, .aload_n 0, 1)) rfl
theorem dX16_coins_6 : decode cX16_coins 6 = .ok (.getfield 497, 3) := dk_get daX16_coins 6 (r := (6, .getfield 497, 3)) rfl
theorem dX16_coins_9 : decode cX16_coins 9 = .ok (.if_icmp .ge 22, 3) := dk_get daX16_coins 7 (r := (9, .if_icmp .ge 22, 3)) rfl
theorem dX16_coins_12 : decode cX16_coins 12 = .ok (.lload_n 1, 1) := dk_get daX16_coins 8 (r := (12, .lload_n 1, 1)) rfl
theorem dX16_coins_13 : decode cX16_coins 13 = .ok (.aload_n 0, 1) := dk_get daX16_coins 9 (r := (13, .aload_n 0, 1)) rfl
theorem dX16_coins_14 : decode cX16_coins 14 = .ok (.aload_n 0, 1) := dk_get daX16_coins 10 (r := (14, .aload_n 0, 1)) rfl
theorem dX16_coins_15 : decode cX16_coins 15 = .ok (.getfield 500, 3) := dk_get daX16_coins 11 (r := (15, .getfield 500, 3)) rfl
theorem dX16_coins_18 : decode cX16_coins 18 = .ok (.iload_n 3, 1) := dk_get daX16_coins 12 (r := (18, .iload_n 3, 1)) rfl
theorem dX16_coins_19 : decode cX16_coins 19 = .ok (.iaload, 1) := dk_get daX16_coins 13 (r := (19, .iaload, 1)) rfl
theorem dX16_coins_20 : decode cX16_coins 20 = .ok (.invokevirtual 471, 3) := dk_get daX16_coins 14 (r := (20, .invokevirtual 471, 3)) rfl
theorem dX16_coins_23 : decode cX16_coins 23 = .ok (.ladd, 1) := dk_get daX16_coins 15 (r := (23, .ladd, 1)) rfl
theorem dX16_coins_24 : decode cX16_coins 24 = .ok (.lstore_n 1, 1) := dk_get daX16_coins 16 (r := (24, .lstore_n 1, 1)) rfl
theorem dX16_coins_25 : decode cX16_coins 25 = .ok (.iinc 3 1, 3) := dk_get daX16_coins 17 (r := (25, .iinc 3 1, 3)) rfl
theorem dX16_coins_28 : decode cX16_coins 28 = .ok (.goto (-24), 3) := dk_get daX16_coins 18 (r := (28, .goto (-24), 3)) rfl
theorem dX16_coins_31 : decode cX16_coins 31 = .ok (.lload_n 1, 1) := dk_get daX16_coins 19 (r := (31, .lload_n 1, 1)) rfl
theorem dX16_coins_32 : decode cX16_coins 32 = .ok (.lreturn, 1) := dk_get daX16_coins 20 (r := (32, .lreturn, 1)) rfl
abbrev mX16_word : ks_M := (RX16, cX16_word, 5, (some .long), "word")
def drX16_word : List (Nat × Instr × Nat) := [(0, .aload_n 0, 1), (1, .iload_n 1, 1), (2, .ifCond .lt 15, 3), (5, .iload_n 1, 1), (6, .aload_n 0, 1), (7, .getfield 862, 3), (10, .if_icmp .ge 7, 3), (13, .iconst 1, 1), (14, .goto 4, 3), (17, .iconst 0, 1), (18, .iconst 1, 1), (19, .invokevirtual 891, 3), (22, .ifCond .ne 5, 3), (25, .lconst 0, 1), (26, .lreturn, 1), (27, .lconst 0, 1), (28, .lstore_n 2, 1), (29, .iload_n 1, 1), (30, .istore 4, 2), (32, .iload 4, 2), (34, .iload_n 1, 1), (35, .bipush 8, 2), (37, .iadd, 1), (38, .if_icmp .ge 40, 3), (41, .lload_n 2, 1), (42, .bipush 8, 2), (44, .lshl, 1), (45, .iload 4, 2), (47, .aload_n 0, 1), (48, .getfield 862, 3), (51, .if_icmp .ge 18, 3), (54, .aload_n 0, 1), (55, .getfield 801, 3), (58, .iload 4, 2), (60, .baload, 1), (61, .i2l, 1), (62, .ldc2_w 941, 3), (65, .land, 1), (66, .goto 4, 3), (69, .lconst 0, 1), (70, .lor, 1), (71, .lstore_n 2, 1), (72, .iinc 4 1, 3), (75, .goto (-43), 3), (78, .lload_n 2, 1), (79, .lreturn, 1)]
set_option maxRecDepth 100000 in
theorem daX16_word : dk_all cX16_word drX16_word = true := by decide +kernel
theorem dX16_word_0 : decode cX16_word 0 = .ok (.aload_n 0, 1) := dk_get daX16_word 0 (r := (0, .aload_n 0, 1)) rfl
theorem dX16_word_1 : decode cX16_word 1 = .ok (.iload_n 1, 1) := dk_get daX16_word 1 (r := (1, .iload_n 1, 1)) rfl
theorem dX16_word_2 : decode cX16_word 2 = .ok (.ifCond .lt 15, 3) := dk_get daX16_word 2 (r := (2, .ifCond .lt 15, 3)) rfl
theorem dX16_word_5 : decode cX16_word 5 = .ok (.iload_n 1, 1) := dk_get daX16_word 3 (r := (5, .iload_n 1, 1)) rfl
theorem dX16_word_6 : decode cX16_word 6 = .ok (.aload_n 0, 1) := dk_get daX16_word 4 (r := (6, .aload_n 0, 1)) rfl
theorem dX16_word_7 : decode cX16_word 7 = .ok (.getfield 862, 3) := dk_get daX16_word 5 (r := (7, .getfield 862, 3)) rfl
theorem dX16_word_10 : decode cX16_word 10 = .ok (.if_icmp .ge 7, 3) := dk_get daX16_word 6 (r := (10, .if_icmp .ge 7, 3)) rfl
theorem dX16_word_13 : decode cX16_word 13 = .ok (.iconst 1, 1) := dk_get daX16_word 7 (r := (13, .iconst 1, 1)) rfl
theorem dX16_word_14 : decode cX16_word 14 = .ok (.goto 4, 3) := dk_get daX16_word 8 (r := (14, .goto 4, 3)) rfl
theorem dX16_word_17 : decode cX16_word 17 = .ok (.iconst 0, 1) := dk_get daX16_word 9 (r := (17, .iconst 0, 1)) rfl
theorem dX16_word_18 : decode cX16_word 18 = .ok (.iconst 1, 1) := dk_get daX16_word 10 (r := (18, .iconst 1, 1)) rfl
theorem dX16_word_19 : decode cX16_word 19 = .ok (.invokevirtual 891, 3) := dk_get daX16_word 11 (r := (19, .invokevirtual 891, 3)) rfl
theorem dX16_word_22 : decode cX16_word 22 = .ok (.ifCond .ne 5, 3) := dk_get daX16_word 12 (r := (22, .ifCond .ne 5, 3)) rfl
theorem dX16_word_25 : decode cX16_word 25 = .ok (.lconst 0, 1) := dk_get daX16_word 13 (r := (25, .lconst 0, 1)) rfl
theorem dX16_word_26 : decode cX16_word 26 = .ok (.lreturn, 1) := dk_get daX16_word 14 (r := (26, .lreturn, 1)) rfl
theorem dX16_word_27 : decode cX16_word 27 = .ok (.lconst 0, 1) := dk_get daX16_word 15 (r := (27, .lconst 0, 1)) rfl
theorem dX16_word_28 : decode cX16_word 28 = .ok (.lstore_n 2, 1) := dk_get daX16_word 16 (r := (28, .lstore_n 2, 1)) rfl
theorem dX16_word_29 : decode cX16_word 29 = .ok (.iload_n 1, 1) := dk_get daX16_word 17 (r := (29, .iload_n 1, 1)) rfl
theorem dX16_word_30 : decode cX16_word 30 = .ok (.istore 4, 2) := dk_get daX16_word 18 (r := (30, .istore 4, 2)) rfl
theorem dX16_word_32 : decode cX16_word 32 = .ok (.iload 4, 2) := dk_get daX16_word 19 (r := (32, .iload 4, 2)) rfl
theorem dX16_word_34 : decode cX16_word 34 = .ok (.iload_n 1, 1) := dk_get daX16_word 20 (r := (34, .iload_n 1, 1)) rfl
theorem dX16_word_35 : decode cX16_word 35 = .ok (.bipush 8, 2) := dk_get daX16_word 21 (r := (35, .bipush 8, 2)) rfl
theorem dX16_word_37 : decode cX16_word 37 = .ok (.iadd, 1) := dk_get daX16_word 22 (r := (37, .iadd, 1)) rfl
theorem dX16_word_38 : decode cX16_word 38 = .ok (.if_icmp .ge 40, 3) := dk_get daX16_word 23 (r := (38, .if_icmp .ge 40, 3)) rfl
theorem dX16_word_41 : decode cX16_word 41 = .ok (.lload_n 2, 1) := dk_get daX16_word 24 (r := (41, .lload_n 2, 1)) rfl
theorem dX16_word_42 : decode cX16_word 42 = .ok (.bipush 8, 2) := dk_get daX16_word 25 (r := (42, .bipush 8, 2)) rfl
theorem dX16_word_44 : decode cX16_word 44 = .ok (.lshl, 1) := dk_get daX16_word 26 (r := (44, .lshl, 1)) rfl
theorem dX16_word_45 : decode cX16_word 45 = .ok (.iload 4, 2) := dk_get daX16_word 27 (r := (45, .iload 4, 2)) rfl
theorem dX16_word_47 : decode cX16_word 47 = .ok (.aload_n 0, 1) := dk_get daX16_word 28 (r := (47, .aload_n 0, 1)) rfl
theorem dX16_word_48 : decode cX16_word 48 = .ok (.getfield 862, 3) := dk_get daX16_word 29 (r := (48, .getfield 862, 3)) rfl
theorem dX16_word_51 : decode cX16_word 51 = .ok (.if_icmp .ge 18, 3) := dk_get daX16_word 30 (r := (51, .if_icmp .ge 18, 3)) rfl
theorem dX16_word_54 : decode cX16_word 54 = .ok (.aload_n 0, 1) := dk_get daX16_word 31 (r := (54, .aload_n 0, 1)) rfl
theorem dX16_word_55 : decode cX16_word 55 = .ok (.getfield 801, 3) := dk_get daX16_word 32 (r := (55, .getfield 801, 3)) rfl
theorem dX16_word_58 : decode cX16_word 58 = .ok (.iload 4, 2) := dk_get daX16_word 33 (r := (58, .iload 4, 2)) rfl
theorem dX16_word_60 : decode cX16_word 60 = .ok (.baload, 1) := dk_get daX16_word 34 (r := (60, .baload, 1)) rfl
theorem dX16_word_61 : decode cX16_word 61 = .ok (.i2l, 1) := dk_get daX16_word 35 (r := (61, .i2l, 1)) rfl
theorem dX16_word_62 : decode cX16_word 62 = .ok (.ldc2_w 941, 3) := dk_get daX16_word 36 (r := (62, .ldc2_w 941, 3)) rfl
theorem dX16_word_65 : decode cX16_word 65 = .ok (.land, 1) := dk_get daX16_word 37 (r := (65, .land, 1)) rfl
theorem dX16_word_66 : decode cX16_word 66 = .ok (.goto 4, 3) := dk_get daX16_word 38 (r := (66, .goto 4, 3)) rfl
theorem dX16_word_69 : decode cX16_word 69 = .ok (.lconst 0, 1) := dk_get daX16_word 39 (r := (69, .lconst 0, 1)) rfl
theorem dX16_word_70 : decode cX16_word 70 = .ok (.lor, 1) := dk_get daX16_word 40 (r := (70, .lor, 1)) rfl
theorem dX16_word_71 : decode cX16_word 71 = .ok (.lstore_n 2, 1) := dk_get daX16_word 41 (r := (71, .lstore_n 2, 1)) rfl
theorem dX16_word_72 : decode cX16_word 72 = .ok (.iinc 4 1, 3) := dk_get daX16_word 42 (r := (72, .iinc 4 1, 3)) rfl
theorem dX16_word_75 : decode cX16_word 75 = .ok (.goto (-43), 3) := dk_get daX16_word 43 (r := (75, .goto (-43), 3)) rfl
theorem dX16_word_78 : decode cX16_word 78 = .ok (.lload_n 2, 1) := dk_get daX16_word 44 (r := (78, .lload_n 2, 1)) rfl
theorem dX16_word_79 : decode cX16_word 79 = .ok (.lreturn, 1) := dk_get daX16_word 45 (r := (79, .lreturn, 1)) rfl
set_option maxRecDepth 100000 in
theorem kx_1946 : (Jvm.Cond.constant "CoinJudgeModel" (852 : Nat) (545259519 : Int32)) ∈ lw_tbl := List.mem_append_right _ (List.mem_of_getElem? (i := 1946) (by rfl))
set_option maxRecDepth 100000 in
theorem kx_1954 : (Jvm.Cond.methodLink "CoinJudgeModel" (868 : Nat) ({ cls := "CoinJudgeModel", name := "addInput", desc := "(IJ)V" } : Jvm.MethodName)) ∈ lw_tbl := List.mem_append_right _ (List.mem_of_getElem? (i := 1954) (by rfl))
set_option maxRecDepth 100000 in
theorem kx_1956 : (Jvm.Cond.instanceMethod ({ cls := "CoinJudgeModel", name := "addInput", desc := "(IJ)V" } : Jvm.MethodName)) ∈ lw_tbl := List.mem_append_right _ (List.mem_of_getElem? (i := 1956) (by rfl))
set_option maxRecDepth 100000 in
theorem kx_1957 : (Jvm.Cond.code ({ cls := "CoinJudgeModel", name := "addInput", desc := "(IJ)V" } : Jvm.MethodName) prog_14_method_108_code (6 : Nat) (Option.none : Option Jvm.ClassFile.FieldType)) ∈ lw_tbl := List.mem_append_right _ (List.mem_of_getElem? (i := 1957) (by rfl))
set_option maxRecDepth 100000 in
theorem kx_1959 : (Jvm.Cond.methodLink "CoinJudgeModel" (872 : Nat) ({ cls := "CoinJudgeModel", name := "addOutput", desc := "(J)V" } : Jvm.MethodName)) ∈ lw_tbl := List.mem_append_right _ (List.mem_of_getElem? (i := 1959) (by rfl))
set_option maxRecDepth 100000 in
theorem kx_1961 : (Jvm.Cond.instanceMethod ({ cls := "CoinJudgeModel", name := "addOutput", desc := "(J)V" } : Jvm.MethodName)) ∈ lw_tbl := List.mem_append_right _ (List.mem_of_getElem? (i := 1961) (by rfl))
set_option maxRecDepth 100000 in
theorem kx_1962 : (Jvm.Cond.code ({ cls := "CoinJudgeModel", name := "addOutput", desc := "(J)V" } : Jvm.MethodName) prog_14_method_109_code (6 : Nat) (Option.none : Option Jvm.ClassFile.FieldType)) ∈ lw_tbl := List.mem_append_right _ (List.mem_of_getElem? (i := 1962) (by rfl))
set_option maxRecDepth 100000 in
theorem kx_1963 : (Jvm.Cond.methodLink "CoinJudgeModel" (875 : Nat) ({ cls := "CoinJudgeModel", name := "assemble", desc := "(I)V" } : Jvm.MethodName)) ∈ lw_tbl := List.mem_append_right _ (List.mem_of_getElem? (i := 1963) (by rfl))
set_option maxRecDepth 100000 in
theorem kx_1965 : (Jvm.Cond.instanceMethod ({ cls := "CoinJudgeModel", name := "assemble", desc := "(I)V" } : Jvm.MethodName)) ∈ lw_tbl := List.mem_append_right _ (List.mem_of_getElem? (i := 1965) (by rfl))
set_option maxRecDepth 100000 in
theorem kx_1966 : (Jvm.Cond.code ({ cls := "CoinJudgeModel", name := "assemble", desc := "(I)V" } : Jvm.MethodName) prog_14_method_117_code (5 : Nat) (Option.none : Option Jvm.ClassFile.FieldType)) ∈ lw_tbl := List.mem_append_right _ (List.mem_of_getElem? (i := 1966) (by rfl))
set_option maxRecDepth 100000 in
theorem kx_1967 : (Jvm.Cond.methodLink "CoinJudgeModel" (909 : Nat) ({ cls := "CoinJudgeModel", name := "draftId", desc := "(I)V" } : Jvm.MethodName)) ∈ lw_tbl := List.mem_append_right _ (List.mem_of_getElem? (i := 1967) (by rfl))
set_option maxRecDepth 100000 in
theorem kx_1969 : (Jvm.Cond.instanceMethod ({ cls := "CoinJudgeModel", name := "draftId", desc := "(I)V" } : Jvm.MethodName)) ∈ lw_tbl := List.mem_append_right _ (List.mem_of_getElem? (i := 1969) (by rfl))
set_option maxRecDepth 100000 in
theorem kx_1970 : (Jvm.Cond.code ({ cls := "CoinJudgeModel", name := "draftId", desc := "(I)V" } : Jvm.MethodName) prog_14_method_94_code (2 : Nat) (Option.none : Option Jvm.ClassFile.FieldType)) ∈ lw_tbl := List.mem_append_right _ (List.mem_of_getElem? (i := 1970) (by rfl))
set_option maxRecDepth 100000 in
theorem kx_1971 : (Jvm.Cond.methodLink "CoinJudgeModel" (767 : Nat) ({ cls := "CoinJudgeModel", name := "makeTx", desc := "(I)V" } : Jvm.MethodName)) ∈ lw_tbl := List.mem_append_right _ (List.mem_of_getElem? (i := 1971) (by rfl))
set_option maxRecDepth 100000 in
theorem kx_1973 : (Jvm.Cond.instanceMethod ({ cls := "CoinJudgeModel", name := "makeTx", desc := "(I)V" } : Jvm.MethodName)) ∈ lw_tbl := List.mem_append_right _ (List.mem_of_getElem? (i := 1973) (by rfl))
set_option maxRecDepth 100000 in
theorem kx_1974 : (Jvm.Cond.code ({ cls := "CoinJudgeModel", name := "makeTx", desc := "(I)V" } : Jvm.MethodName) prog_14_method_93_code (3 : Nat) (Option.none : Option Jvm.ClassFile.FieldType)) ∈ lw_tbl := List.mem_append_right _ (List.mem_of_getElem? (i := 1974) (by rfl))
set_option maxRecDepth 100000 in
theorem kx_1975 : (Jvm.Cond.methodLink "CoinJudgeModel" (726 : Nat) ({ cls := "CoinJudgeModel", name := "make", desc := "(JI)V" } : Jvm.MethodName)) ∈ lw_tbl := List.mem_append_right _ (List.mem_of_getElem? (i := 1975) (by rfl))
set_option maxRecDepth 100000 in
theorem kx_1977 : (Jvm.Cond.instanceMethod ({ cls := "CoinJudgeModel", name := "make", desc := "(JI)V" } : Jvm.MethodName)) ∈ lw_tbl := List.mem_append_right _ (List.mem_of_getElem? (i := 1977) (by rfl))
set_option maxRecDepth 100000 in
theorem kx_1978 : (Jvm.Cond.code ({ cls := "CoinJudgeModel", name := "make", desc := "(JI)V" } : Jvm.MethodName) prog_14_method_90_code (5 : Nat) (Option.none : Option Jvm.ClassFile.FieldType)) ∈ lw_tbl := List.mem_append_right _ (List.mem_of_getElem? (i := 1978) (by rfl))
set_option maxRecDepth 100000 in
theorem kx_1979 : (Jvm.Cond.methodLink "CoinJudgeModel" (735 : Nat) ({ cls := "CoinJudgeModel", name := "makeCount", desc := "(I)V" } : Jvm.MethodName)) ∈ lw_tbl := List.mem_append_right _ (List.mem_of_getElem? (i := 1979) (by rfl))
set_option maxRecDepth 100000 in
theorem kx_1981 : (Jvm.Cond.instanceMethod ({ cls := "CoinJudgeModel", name := "makeCount", desc := "(I)V" } : Jvm.MethodName)) ∈ lw_tbl := List.mem_append_right _ (List.mem_of_getElem? (i := 1981) (by rfl))
set_option maxRecDepth 100000 in
theorem kx_1982 : (Jvm.Cond.code ({ cls := "CoinJudgeModel", name := "makeCount", desc := "(I)V" } : Jvm.MethodName) prog_14_method_92_code (2 : Nat) (Option.none : Option Jvm.ClassFile.FieldType)) ∈ lw_tbl := List.mem_append_right _ (List.mem_of_getElem? (i := 1982) (by rfl))
set_option maxRecDepth 100000 in
theorem kx_1984 : (Jvm.Cond.methodLink "CoinJudgeModel" (741 : Nat) ({ cls := "CoinJudgeModel", name := "make", desc := "([BII)V" } : Jvm.MethodName)) ∈ lw_tbl := List.mem_append_right _ (List.mem_of_getElem? (i := 1984) (by rfl))
set_option maxRecDepth 100000 in
theorem kx_1986 : (Jvm.Cond.instanceMethod ({ cls := "CoinJudgeModel", name := "make", desc := "([BII)V" } : Jvm.MethodName)) ∈ lw_tbl := List.mem_append_right _ (List.mem_of_getElem? (i := 1986) (by rfl))
set_option maxRecDepth 100000 in
theorem kx_1987 : (Jvm.Cond.code ({ cls := "CoinJudgeModel", name := "make", desc := "([BII)V" } : Jvm.MethodName) prog_14_method_91_code (5 : Nat) (Option.none : Option Jvm.ClassFile.FieldType)) ∈ lw_tbl := List.mem_append_right _ (List.mem_of_getElem? (i := 1987) (by rfl))
set_option maxRecDepth 100000 in
theorem kx_2042 : (Jvm.Cond.constantLong "CoinJudgeModel" (924 : Nat) (2 : Int64)) ∈ lw_tbl := List.mem_append_right _ (List.mem_of_getElem? (i := 2042) (by rfl))
set_option maxRecDepth 100000 in
theorem kx_2046 : (Jvm.Cond.methodLink "CoinJudgeModel" (878 : Nat) ({ cls := "CoinJudgeModel", name := "keep", desc := "([BII)V" } : Jvm.MethodName)) ∈ lw_tbl := List.mem_append_right _ (List.mem_of_getElem? (i := 2046) (by rfl))
set_option maxRecDepth 100000 in
theorem kx_2048 : (Jvm.Cond.instanceMethod ({ cls := "CoinJudgeModel", name := "keep", desc := "([BII)V" } : Jvm.MethodName)) ∈ lw_tbl := List.mem_append_right _ (List.mem_of_getElem? (i := 2048) (by rfl))
set_option maxRecDepth 100000 in
theorem kx_2363 : (Jvm.Cond.methodLink "CoinJudgeModel" (884 : Nat) ({ cls := "CoinJudgeModel", name := "take", desc := "()V" } : Jvm.MethodName)) ∈ lw_tbl := List.mem_append_right _ (List.mem_of_getElem? (i := 2363) (by rfl))
set_option maxRecDepth 100000 in
theorem kx_2365 : (Jvm.Cond.instanceMethod ({ cls := "CoinJudgeModel", name := "take", desc := "()V" } : Jvm.MethodName)) ∈ lw_tbl := List.mem_append_right _ (List.mem_of_getElem? (i := 2365) (by rfl))
set_option maxRecDepth 100000 in
theorem kx_2416 : (Jvm.Cond.fieldLink "CoinJudgeModel" (881 : Nat) "CoinJudgeModel" "best" "I") ∈ lw_tbl := List.mem_append_right _ (List.mem_of_getElem? (i := 2416) (by rfl))
set_option maxRecDepth 100000 in
theorem kx_2423 : (Jvm.Cond.fieldLink "CoinJudgeModel" (926 : Nat) "CoinJudgeModel" "reason" "I") ∈ lw_tbl := List.mem_append_right _ (List.mem_of_getElem? (i := 2423) (by rfl))
set_option maxRecDepth 100000 in
theorem kx_2424 : (Jvm.Cond.fieldLink "CoinJudgeModel" (789 : Nat) "CoinJudgeModel" "judged" "LCoinJudgeModel$Parsed;") ∈ lw_tbl := List.mem_append_right _ (List.mem_of_getElem? (i := 2424) (by rfl))
set_option maxRecDepth 100000 in
theorem kx_2425 : (Jvm.Cond.fieldLink "CoinJudgeModel" (792 : Nat) "CoinJudgeModel" "judgedHash" "[B") ∈ lw_tbl := List.mem_append_right _ (List.mem_of_getElem? (i := 2425) (by rfl))
set_option maxRecDepth 100000 in
theorem kx_2430 : (Jvm.Cond.fieldLink "CoinJudgeModel" (795 : Nat) "CoinJudgeModel" "found" "[I") ∈ lw_tbl := List.mem_append_right _ (List.mem_of_getElem? (i := 2430) (by rfl))
set_option maxRecDepth 100000 in
theorem kx_2460 : (Jvm.Cond.fieldLink "CoinJudgeModel" (859 : Nat) "CoinJudgeModel" "draftParent" "I") ∈ lw_tbl := List.mem_append_right _ (List.mem_of_getElem? (i := 2460) (by rfl))
set_option maxRecDepth 100000 in
theorem kx_2461 : (Jvm.Cond.fieldLink "CoinJudgeModel" (855 : Nat) "CoinJudgeModel" "draftTime" "J") ∈ lw_tbl := List.mem_append_right _ (List.mem_of_getElem? (i := 2461) (by rfl))
set_option maxRecDepth 100000 in
theorem kx_2462 : (Jvm.Cond.fieldLink "CoinJudgeModel" (865 : Nat) "CoinJudgeModel" "txs" "I") ∈ lw_tbl := List.mem_append_right _ (List.mem_of_getElem? (i := 2462) (by rfl))
set_option maxRecDepth 100000 in
theorem kx_2463 : (Jvm.Cond.fieldLink "CoinJudgeModel" (729 : Nat) "CoinJudgeModel" "versions" "[J") ∈ lw_tbl := List.mem_append_right _ (List.mem_of_getElem? (i := 2463) (by rfl))
set_option maxRecDepth 100000 in
theorem kx_2464 : (Jvm.Cond.fieldLink "CoinJudgeModel" (764 : Nat) "CoinJudgeModel" "locks" "[J") ∈ lw_tbl := List.mem_append_right _ (List.mem_of_getElem? (i := 2464) (by rfl))
set_option maxRecDepth 100000 in
theorem kx_2465 : (Jvm.Cond.fieldLink "CoinJudgeModel" (732 : Nat) "CoinJudgeModel" "inputs" "[I") ∈ lw_tbl := List.mem_append_right _ (List.mem_of_getElem? (i := 2465) (by rfl))
set_option maxRecDepth 100000 in
theorem kx_2466 : (Jvm.Cond.fieldLink "CoinJudgeModel" (752 : Nat) "CoinJudgeModel" "outputs" "[I") ∈ lw_tbl := List.mem_append_right _ (List.mem_of_getElem? (i := 2466) (by rfl))
set_option maxRecDepth 100000 in
theorem kx_2467 : (Jvm.Cond.fieldLink "CoinJudgeModel" (738 : Nat) "CoinJudgeModel" "inIds" "[B") ∈ lw_tbl := List.mem_append_right _ (List.mem_of_getElem? (i := 2467) (by rfl))
set_option maxRecDepth 100000 in
theorem kx_2468 : (Jvm.Cond.fieldLink "CoinJudgeModel" (749 : Nat) "CoinJudgeModel" "sequences" "[J") ∈ lw_tbl := List.mem_append_right _ (List.mem_of_getElem? (i := 2468) (by rfl))
set_option maxRecDepth 100000 in
theorem kx_2469 : (Jvm.Cond.fieldLink "CoinJudgeModel" (746 : Nat) "CoinJudgeModel" "inScripts" "[[B") ∈ lw_tbl := List.mem_append_right _ (List.mem_of_getElem? (i := 2469) (by rfl))
set_option maxRecDepth 100000 in
theorem kx_2470 : (Jvm.Cond.fieldLink "CoinJudgeModel" (743 : Nat) "CoinJudgeModel" "inLengths" "[I") ∈ lw_tbl := List.mem_append_right _ (List.mem_of_getElem? (i := 2470) (by rfl))
set_option maxRecDepth 100000 in
theorem kx_2471 : (Jvm.Cond.fieldLink "CoinJudgeModel" (755 : Nat) "CoinJudgeModel" "values" "[J") ∈ lw_tbl := List.mem_append_right _ (List.mem_of_getElem? (i := 2471) (by rfl))
set_option maxRecDepth 100000 in
theorem kx_2472 : (Jvm.Cond.fieldLink "CoinJudgeModel" (761 : Nat) "CoinJudgeModel" "outScripts" "[[B") ∈ lw_tbl := List.mem_append_right _ (List.mem_of_getElem? (i := 2472) (by rfl))
set_option maxRecDepth 100000 in
theorem kx_2473 : (Jvm.Cond.fieldLink "CoinJudgeModel" (758 : Nat) "CoinJudgeModel" "outLengths" "[I") ∈ lw_tbl := List.mem_append_right _ (List.mem_of_getElem? (i := 2473) (by rfl))
set_option maxRecDepth 100000 in
theorem kx_2474 : (Jvm.Cond.fieldLink "CoinJudgeModel" (720 : Nat) "CoinJudgeModel" "made" "[B") ∈ lw_tbl := List.mem_append_right _ (List.mem_of_getElem? (i := 2474) (by rfl))
set_option maxRecDepth 100000 in
theorem kx_2475 : (Jvm.Cond.fieldLink "CoinJudgeModel" (723 : Nat) "CoinJudgeModel" "madeLength" "I") ∈ lw_tbl := List.mem_append_right _ (List.mem_of_getElem? (i := 2475) (by rfl))
set_option maxRecDepth 100000 in
theorem kx_2476 : (Jvm.Cond.fieldLink "CoinJudgeModel" (770 : Nat) "CoinJudgeModel" "draftIds" "[B") ∈ lw_tbl := List.mem_append_right _ (List.mem_of_getElem? (i := 2476) (by rfl))
set_option maxRecDepth 100000 in
theorem kx_2477 : (Jvm.Cond.fieldLink "CoinJudgeModel" (801 : Nat) "CoinJudgeModel" "tape" "[B") ∈ lw_tbl := List.mem_append_right _ (List.mem_of_getElem? (i := 2477) (by rfl))
set_option maxRecDepth 100000 in
theorem kx_2478 : (Jvm.Cond.fieldLink "CoinJudgeModel" (862 : Nat) "CoinJudgeModel" "taped" "I") ∈ lw_tbl := List.mem_append_right _ (List.mem_of_getElem? (i := 2478) (by rfl))
set_option maxRecDepth 100000 in
theorem kx_2479 : (Jvm.Cond.fieldLink "CoinJudgeModel" (888 : Nat) "CoinJudgeModel" "code1" "I") ∈ lw_tbl := List.mem_append_right _ (List.mem_of_getElem? (i := 2479) (by rfl))
set_option maxRecDepth 100000 in
theorem kx_2480 : (Jvm.Cond.fieldLink "CoinJudgeModel" (804 : Nat) "CoinJudgeModel" "least" "[I") ∈ lw_tbl := List.mem_append_right _ (List.mem_of_getElem? (i := 2480) (by rfl))
set_option maxRecDepth 100000 in
theorem kx_2481 : (Jvm.Cond.fieldLink "CoinJudgeModel" (807 : Nat) "CoinJudgeModel" "keyBytes" "[B") ∈ lw_tbl := List.mem_append_right _ (List.mem_of_getElem? (i := 2481) (by rfl))
set_option maxRecDepth 100000 in
theorem kx_2482 : (Jvm.Cond.fieldLink "CoinJudgeModel" (810 : Nat) "CoinJudgeModel" "draft" "LCoinJudgeModel$Parsed;") ∈ lw_tbl := List.mem_append_right _ (List.mem_of_getElem? (i := 2482) (by rfl))
set_option maxRecDepth 100000 in
theorem kx_2483 : (Jvm.Cond.fieldLink "CoinJudgeModel" (813 : Nat) "CoinJudgeModel" "signature" "[B") ∈ lw_tbl := List.mem_append_right _ (List.mem_of_getElem? (i := 2483) (by rfl))
set_option maxRecDepth 100000 in
theorem kx_2484 : (Jvm.Cond.fieldLink "CoinJudgeModel" (918 : Nat) "CoinJudgeModel" "signatureLength" "I") ∈ lw_tbl := List.mem_append_right _ (List.mem_of_getElem? (i := 2484) (by rfl))
set_option maxRecDepth 100000 in
theorem kx_2485 : (Jvm.Cond.fieldLink "CoinJudgeModel" (816 : Nat) "CoinJudgeModel" "small32" "[B") ∈ lw_tbl := List.mem_append_right _ (List.mem_of_getElem? (i := 2485) (by rfl))
set_option maxRecDepth 100000 in
theorem kx_2486 : (Jvm.Cond.fieldLink "CoinJudgeModel" (819 : Nat) "CoinJudgeModel" "seed" "[B") ∈ lw_tbl := List.mem_append_right _ (List.mem_of_getElem? (i := 2486) (by rfl))
set_option maxRecDepth 100000 in
theorem kx_2729 : (Jvm.Cond.code ({ cls := "CoinJudgeModel", name := "thrown", desc := "()I" } : Jvm.MethodName) prog_14_method_96_code (1 : Nat) (Option.some Jvm.ClassFile.FieldType.int)) ∈ lw_tbl := List.mem_append_right _ (List.mem_of_getElem? (i := 2729) (by rfl))
set_option maxRecDepth 100000 in
theorem kx_2733 : (Jvm.Cond.code ({ cls := "CoinJudgeModel", name := "feed", desc := "(IIIII)I" } : Jvm.MethodName) prog_14_method_98_code (6 : Nat) (Option.some Jvm.ClassFile.FieldType.int)) ∈ lw_tbl := List.mem_append_right _ (List.mem_of_getElem? (i := 2733) (by rfl))
set_option maxRecDepth 100000 in
theorem kx_2734 : (Jvm.Cond.methodLink "CoinJudgeModel" (891 : Nat) ({ cls := "CoinJudgeModel", name := "good", desc := "(ZI)Z" } : Jvm.MethodName)) ∈ lw_tbl := List.mem_append_right _ (List.mem_of_getElem? (i := 2734) (by rfl))
set_option maxRecDepth 100000 in
theorem kx_2736 : (Jvm.Cond.instanceMethod ({ cls := "CoinJudgeModel", name := "good", desc := "(ZI)Z" } : Jvm.MethodName)) ∈ lw_tbl := List.mem_append_right _ (List.mem_of_getElem? (i := 2736) (by rfl))
set_option maxRecDepth 100000 in
theorem kx_2737 : (Jvm.Cond.code ({ cls := "CoinJudgeModel", name := "good", desc := "(ZI)Z" } : Jvm.MethodName) prog_14_method_97_code (3 : Nat) (Option.some Jvm.ClassFile.FieldType.boolean)) ∈ lw_tbl := List.mem_append_right _ (List.mem_of_getElem? (i := 2737) (by rfl))
set_option maxRecDepth 100000 in
theorem kx_2738 : (Jvm.Cond.methodLink "CoinJudgeModel" (895 : Nat) ({ cls := "CoinJudgeModel", name := "four", desc := "(I)V" } : Jvm.MethodName)) ∈ lw_tbl := List.mem_append_right _ (List.mem_of_getElem? (i := 2738) (by rfl))
set_option maxRecDepth 100000 in
theorem kx_2740 : (Jvm.Cond.instanceMethod ({ cls := "CoinJudgeModel", name := "four", desc := "(I)V" } : Jvm.MethodName)) ∈ lw_tbl := List.mem_append_right _ (List.mem_of_getElem? (i := 2740) (by rfl))
set_option maxRecDepth 100000 in
theorem kx_2741 : (Jvm.Cond.code ({ cls := "CoinJudgeModel", name := "four", desc := "(I)V" } : Jvm.MethodName) prog_14_method_99_code (3 : Nat) (Option.none : Option Jvm.ClassFile.FieldType)) ∈ lw_tbl := List.mem_append_right _ (List.mem_of_getElem? (i := 2741) (by rfl))
set_option maxRecDepth 100000 in
theorem kx_2745 : (Jvm.Cond.code ({ cls := "CoinJudgeModel", name := "end", desc := "(I)I" } : Jvm.MethodName) prog_14_method_100_code (2 : Nat) (Option.some Jvm.ClassFile.FieldType.int)) ∈ lw_tbl := List.mem_append_right _ (List.mem_of_getElem? (i := 2745) (by rfl))
set_option maxRecDepth 100000 in
theorem kx_2749 : (Jvm.Cond.code ({ cls := "CoinJudgeModel", name := "patch", desc := "(II)I" } : Jvm.MethodName) prog_14_method_101_code (4 : Nat) (Option.some Jvm.ClassFile.FieldType.int)) ∈ lw_tbl := List.mem_append_right _ (List.mem_of_getElem? (i := 2749) (by rfl))
set_option maxRecDepth 100000 in
theorem kx_2753 : (Jvm.Cond.code ({ cls := "CoinJudgeModel", name := "key", desc := "(II)I" } : Jvm.MethodName) prog_14_method_103_code (4 : Nat) (Option.some Jvm.ClassFile.FieldType.int)) ∈ lw_tbl := List.mem_append_right _ (List.mem_of_getElem? (i := 2753) (by rfl))
set_option maxRecDepth 100000 in
theorem kx_2754 : (Jvm.Cond.methodLink "CoinJudgeModel" (902 : Nat) ({ cls := "CoinJudgeModel", name := "keyOf", desc := "(I)V" } : Jvm.MethodName)) ∈ lw_tbl := List.mem_append_right _ (List.mem_of_getElem? (i := 2754) (by rfl))
set_option maxRecDepth 100000 in
theorem kx_2756 : (Jvm.Cond.instanceMethod ({ cls := "CoinJudgeModel", name := "keyOf", desc := "(I)V" } : Jvm.MethodName)) ∈ lw_tbl := List.mem_append_right _ (List.mem_of_getElem? (i := 2756) (by rfl))
set_option maxRecDepth 100000 in
theorem kx_2757 : (Jvm.Cond.code ({ cls := "CoinJudgeModel", name := "keyOf", desc := "(I)V" } : Jvm.MethodName) prog_14_method_102_code (3 : Nat) (Option.none : Option Jvm.ClassFile.FieldType)) ∈ lw_tbl := List.mem_append_right _ (List.mem_of_getElem? (i := 2757) (by rfl))
set_option maxRecDepth 100000 in
theorem kx_2758 : (Jvm.Cond.methodLink "CoinJudgeModel" (898 : Nat) ({ cls := "CoinJudgeModel", name := "toBytes", desc := "([I[BI)V" } : Jvm.MethodName)) ∈ lw_tbl := List.mem_append_right _ (List.mem_of_getElem? (i := 2758) (by rfl))
set_option maxRecDepth 100000 in
theorem kx_2759 : (Jvm.Cond.static ({ cls := "CoinJudgeModel", name := "toBytes", desc := "([I[BI)V" } : Jvm.MethodName)) ∈ lw_tbl := List.mem_append_right _ (List.mem_of_getElem? (i := 2759) (by rfl))
set_option maxRecDepth 100000 in
theorem kx_2764 : (Jvm.Cond.code ({ cls := "CoinJudgeModel", name := "digest", desc := "(I)I" } : Jvm.MethodName) prog_14_method_104_code (2 : Nat) (Option.some Jvm.ClassFile.FieldType.int)) ∈ lw_tbl := List.mem_append_right _ (List.mem_of_getElem? (i := 2764) (by rfl))
set_option maxRecDepth 100000 in
theorem kx_2768 : (Jvm.Cond.code ({ cls := "CoinJudgeModel", name := "open", desc := "(IJ)V" } : Jvm.MethodName) prog_14_method_106_code (4 : Nat) (Option.none : Option Jvm.ClassFile.FieldType)) ∈ lw_tbl := List.mem_append_right _ (List.mem_of_getElem? (i := 2768) (by rfl))
set_option maxRecDepth 100000 in
theorem kx_2769 : (Jvm.Cond.methodLink "CoinJudgeModel" (905 : Nat) ({ cls := "CoinJudgeModel", name := "is32", desc := "(J)Z" } : Jvm.MethodName)) ∈ lw_tbl := List.mem_append_right _ (List.mem_of_getElem? (i := 2769) (by rfl))
set_option maxRecDepth 100000 in
theorem kx_2770 : (Jvm.Cond.static ({ cls := "CoinJudgeModel", name := "is32", desc := "(J)Z" } : Jvm.MethodName)) ∈ lw_tbl := List.mem_append_right _ (List.mem_of_getElem? (i := 2770) (by rfl))
set_option maxRecDepth 100000 in
theorem kx_2771 : (Jvm.Cond.code ({ cls := "CoinJudgeModel", name := "is32", desc := "(J)Z" } : Jvm.MethodName) prog_14_method_105_code (2 : Nat) (Option.some Jvm.ClassFile.FieldType.boolean)) ∈ lw_tbl := List.mem_append_right _ (List.mem_of_getElem? (i := 2771) (by rfl))
set_option maxRecDepth 100000 in
theorem kx_2775 : (Jvm.Cond.code ({ cls := "CoinJudgeModel", name := "tx", desc := "(JJ)I" } : Jvm.MethodName) prog_14_method_107_code (5 : Nat) (Option.some Jvm.ClassFile.FieldType.int)) ∈ lw_tbl := List.mem_append_right _ (List.mem_of_getElem? (i := 2775) (by rfl))
set_option maxRecDepth 100000 in
theorem kx_2779 : (Jvm.Cond.code ({ cls := "CoinJudgeModel", name := "input", desc := "(IIIJ)I" } : Jvm.MethodName) prog_14_method_110_code (10 : Nat) (Option.some Jvm.ClassFile.FieldType.int)) ∈ lw_tbl := List.mem_append_right _ (List.mem_of_getElem? (i := 2779) (by rfl))
set_option maxRecDepth 100000 in
theorem kx_2783 : (Jvm.Cond.code ({ cls := "CoinJudgeModel", name := "output", desc := "(J)I" } : Jvm.MethodName) prog_14_method_111_code (3 : Nat) (Option.some Jvm.ClassFile.FieldType.int)) ∈ lw_tbl := List.mem_append_right _ (List.mem_of_getElem? (i := 2783) (by rfl))
set_option maxRecDepth 100000 in
theorem kx_2787 : (Jvm.Cond.code ({ cls := "CoinJudgeModel", name := "push", desc := "(I)I" } : Jvm.MethodName) prog_14_method_114_code (4 : Nat) (Option.some Jvm.ClassFile.FieldType.int)) ∈ lw_tbl := List.mem_append_right _ (List.mem_of_getElem? (i := 2787) (by rfl))
set_option maxRecDepth 100000 in
theorem kx_2788 : (Jvm.Cond.methodLink "CoinJudgeModel" (912 : Nat) ({ cls := "CoinJudgeModel", name := "hasInput", desc := "(I)Z" } : Jvm.MethodName)) ∈ lw_tbl := List.mem_append_right _ (List.mem_of_getElem? (i := 2788) (by rfl))
set_option maxRecDepth 100000 in
theorem kx_2790 : (Jvm.Cond.instanceMethod ({ cls := "CoinJudgeModel", name := "hasInput", desc := "(I)Z" } : Jvm.MethodName)) ∈ lw_tbl := List.mem_append_right _ (List.mem_of_getElem? (i := 2790) (by rfl))
set_option maxRecDepth 100000 in
theorem kx_2791 : (Jvm.Cond.code ({ cls := "CoinJudgeModel", name := "hasInput", desc := "(I)Z" } : Jvm.MethodName) prog_14_method_112_code (2 : Nat) (Option.some Jvm.ClassFile.FieldType.boolean)) ∈ lw_tbl := List.mem_append_right _ (List.mem_of_getElem? (i := 2791) (by rfl))
set_option maxRecDepth 100000 in
theorem kx_2792 : (Jvm.Cond.methodLink "CoinJudgeModel" (915 : Nat) ({ cls := "CoinJudgeModel", name := "pushTo", desc := "(I[BI)V" } : Jvm.MethodName)) ∈ lw_tbl := List.mem_append_right _ (List.mem_of_getElem? (i := 2792) (by rfl))
set_option maxRecDepth 100000 in
theorem kx_2794 : (Jvm.Cond.instanceMethod ({ cls := "CoinJudgeModel", name := "pushTo", desc := "(I[BI)V" } : Jvm.MethodName)) ∈ lw_tbl := List.mem_append_right _ (List.mem_of_getElem? (i := 2794) (by rfl))
set_option maxRecDepth 100000 in
theorem kx_2795 : (Jvm.Cond.code ({ cls := "CoinJudgeModel", name := "pushTo", desc := "(I[BI)V" } : Jvm.MethodName) prog_14_method_113_code (7 : Nat) (Option.none : Option Jvm.ClassFile.FieldType)) ∈ lw_tbl := List.mem_append_right _ (List.mem_of_getElem? (i := 2795) (by rfl))
set_option maxRecDepth 100000 in
theorem kx_2799 : (Jvm.Cond.code ({ cls := "CoinJudgeModel", name := "sign", desc := "(III)I" } : Jvm.MethodName) prog_14_method_116_code (8 : Nat) (Option.some Jvm.ClassFile.FieldType.int)) ∈ lw_tbl := List.mem_append_right _ (List.mem_of_getElem? (i := 2799) (by rfl))
set_option maxRecDepth 100000 in
theorem kx_2800 : (Jvm.Cond.methodLink "CoinJudgeModel" (921 : Nat) ({ cls := "CoinJudgeModel", name := "der", desc := "([I)V" } : Jvm.MethodName)) ∈ lw_tbl := List.mem_append_right _ (List.mem_of_getElem? (i := 2800) (by rfl))
set_option maxRecDepth 100000 in
theorem kx_2802 : (Jvm.Cond.instanceMethod ({ cls := "CoinJudgeModel", name := "der", desc := "([I)V" } : Jvm.MethodName)) ∈ lw_tbl := List.mem_append_right _ (List.mem_of_getElem? (i := 2802) (by rfl))
set_option maxRecDepth 100000 in
theorem kx_2803 : (Jvm.Cond.code ({ cls := "CoinJudgeModel", name := "der", desc := "([I)V" } : Jvm.MethodName) prog_14_method_115_code (4 : Nat) (Option.none : Option Jvm.ClassFile.FieldType)) ∈ lw_tbl := List.mem_append_right _ (List.mem_of_getElem? (i := 2803) (by rfl))
set_option maxRecDepth 100000 in
theorem kx_2807 : (Jvm.Cond.code ({ cls := "CoinJudgeModel", name := "seal", desc := "(I)I" } : Jvm.MethodName) prog_14_method_118_code (3 : Nat) (Option.some Jvm.ClassFile.FieldType.int)) ∈ lw_tbl := List.mem_append_right _ (List.mem_of_getElem? (i := 2807) (by rfl))
set_option maxRecDepth 100000 in
theorem kx_2811 : (Jvm.Cond.code ({ cls := "CoinJudgeModel", name := "judge", desc := "()I" } : Jvm.MethodName) prog_14_method_120_code (5 : Nat) (Option.some Jvm.ClassFile.FieldType.int)) ∈ lw_tbl := List.mem_append_right _ (List.mem_of_getElem? (i := 2811) (by rfl))
set_option maxRecDepth 100000 in
theorem kx_2812 : (Jvm.Cond.methodLink "CoinJudgeModel" (929 : Nat) ({ cls := "CoinJudgeModel", name := "refuse", desc := "(I)I" } : Jvm.MethodName)) ∈ lw_tbl := List.mem_append_right _ (List.mem_of_getElem? (i := 2812) (by rfl))
set_option maxRecDepth 100000 in
theorem kx_2814 : (Jvm.Cond.instanceMethod ({ cls := "CoinJudgeModel", name := "refuse", desc := "(I)I" } : Jvm.MethodName)) ∈ lw_tbl := List.mem_append_right _ (List.mem_of_getElem? (i := 2814) (by rfl))
set_option maxRecDepth 100000 in
theorem kx_2815 : (Jvm.Cond.code ({ cls := "CoinJudgeModel", name := "refuse", desc := "(I)I" } : Jvm.MethodName) prog_14_method_119_code (2 : Nat) (Option.some Jvm.ClassFile.FieldType.int)) ∈ lw_tbl := List.mem_append_right _ (List.mem_of_getElem? (i := 2815) (by rfl))
set_option maxRecDepth 100000 in
theorem kx_2816 : (Jvm.Cond.methodLink "CoinJudgeModel" (932 : Nat) ({ cls := "CoinJudgeModel", name := "findBlock", desc := "([BI)I" } : Jvm.MethodName)) ∈ lw_tbl := List.mem_append_right _ (List.mem_of_getElem? (i := 2816) (by rfl))
set_option maxRecDepth 100000 in
theorem kx_2818 : (Jvm.Cond.instanceMethod ({ cls := "CoinJudgeModel", name := "findBlock", desc := "([BI)I" } : Jvm.MethodName)) ∈ lw_tbl := List.mem_append_right _ (List.mem_of_getElem? (i := 2818) (by rfl))
set_option maxRecDepth 100000 in
theorem kx_2820 : (Jvm.Cond.methodLink "CoinJudgeModel" (935 : Nat) ({ cls := "CoinJudgeModel", name := "fault", desc := "(LCoinJudgeModel$Parsed;I)I" } : Jvm.MethodName)) ∈ lw_tbl := List.mem_append_right _ (List.mem_of_getElem? (i := 2820) (by rfl))
set_option maxRecDepth 100000 in
theorem kx_2822 : (Jvm.Cond.instanceMethod ({ cls := "CoinJudgeModel", name := "fault", desc := "(LCoinJudgeModel$Parsed;I)I" } : Jvm.MethodName)) ∈ lw_tbl := List.mem_append_right _ (List.mem_of_getElem? (i := 2822) (by rfl))
set_option maxRecDepth 100000 in
theorem kx_2844 : (Jvm.Cond.methodLink "CoinJudgeModel" (938 : Nat) ({ cls := "CoinJudgeModel", name := "chain", desc := "(I)I" } : Jvm.MethodName)) ∈ lw_tbl := List.mem_append_right _ (List.mem_of_getElem? (i := 2844) (by rfl))
set_option maxRecDepth 100000 in
theorem kx_2846 : (Jvm.Cond.instanceMethod ({ cls := "CoinJudgeModel", name := "chain", desc := "(I)I" } : Jvm.MethodName)) ∈ lw_tbl := List.mem_append_right _ (List.mem_of_getElem? (i := 2846) (by rfl))
set_option maxRecDepth 100000 in
theorem kx_2855 : (Jvm.Cond.code ({ cls := "CoinJudgeModel", name := "tell", desc := "(I)I" } : Jvm.MethodName) prog_14_method_121_code (2 : Nat) (Option.some Jvm.ClassFile.FieldType.int)) ∈ lw_tbl := List.mem_append_right _ (List.mem_of_getElem? (i := 2855) (by rfl))
set_option maxRecDepth 100000 in
theorem kx_2859 : (Jvm.Cond.code ({ cls := "CoinJudgeModel", name := "block", desc := "(II)J" } : Jvm.MethodName) prog_14_method_122_code (4 : Nat) (Option.some Jvm.ClassFile.FieldType.long)) ∈ lw_tbl := List.mem_append_right _ (List.mem_of_getElem? (i := 2859) (by rfl))
set_option maxRecDepth 100000 in
theorem kx_2863 : (Jvm.Cond.code ({ cls := "CoinJudgeModel", name := "coin", desc := "(III)J" } : Jvm.MethodName) prog_14_method_123_code (5 : Nat) (Option.some Jvm.ClassFile.FieldType.long)) ∈ lw_tbl := List.mem_append_right _ (List.mem_of_getElem? (i := 2863) (by rfl))
set_option maxRecDepth 100000 in
theorem kx_2867 : (Jvm.Cond.code ({ cls := "CoinJudgeModel", name := "coins", desc := "()J" } : Jvm.MethodName) prog_14_method_124_code (4 : Nat) (Option.some Jvm.ClassFile.FieldType.long)) ∈ lw_tbl := List.mem_append_right _ (List.mem_of_getElem? (i := 2867) (by rfl))
set_option maxRecDepth 100000 in
theorem kx_2871 : (Jvm.Cond.code ({ cls := "CoinJudgeModel", name := "word", desc := "(I)J" } : Jvm.MethodName) prog_14_method_125_code (5 : Nat) (Option.some Jvm.ClassFile.FieldType.long)) ∈ lw_tbl := List.mem_append_right _ (List.mem_of_getElem? (i := 2871) (by rfl))
set_option maxRecDepth 100000 in
theorem kx_2872 : (Jvm.Cond.constantLong "CoinJudgeModel" (941 : Nat) (255 : Int64)) ∈ lw_tbl := List.mem_append_right _ (List.mem_of_getElem? (i := 2872) (by rfl))
theorem kxp_53 : Cond.selects "CoinJudgeModel" ({ cls := "CoinJudgeModel", name := "addInput", desc := "(IJ)V" } : MethodName) ({ cls := "CoinJudgeModel", name := "addInput", desc := "(IJ)V" } : MethodName) ∈ lw_tbl := List.mem_append_left _ (List.mem_of_getElem? (i := 53) (by decide +kernel))
theorem kxp_54 : Cond.selects "CoinJudgeModel" ({ cls := "CoinJudgeModel", name := "addOutput", desc := "(J)V" } : MethodName) ({ cls := "CoinJudgeModel", name := "addOutput", desc := "(J)V" } : MethodName) ∈ lw_tbl := List.mem_append_left _ (List.mem_of_getElem? (i := 54) (by decide +kernel))
theorem kxp_55 : Cond.selects "CoinJudgeModel" ({ cls := "CoinJudgeModel", name := "assemble", desc := "(I)V" } : MethodName) ({ cls := "CoinJudgeModel", name := "assemble", desc := "(I)V" } : MethodName) ∈ lw_tbl := List.mem_append_left _ (List.mem_of_getElem? (i := 55) (by decide +kernel))
theorem kxp_56 : Cond.selects "CoinJudgeModel" ({ cls := "CoinJudgeModel", name := "draftId", desc := "(I)V" } : MethodName) ({ cls := "CoinJudgeModel", name := "draftId", desc := "(I)V" } : MethodName) ∈ lw_tbl := List.mem_append_left _ (List.mem_of_getElem? (i := 56) (by decide +kernel))
theorem kxp_57 : Cond.selects "CoinJudgeModel" ({ cls := "CoinJudgeModel", name := "makeTx", desc := "(I)V" } : MethodName) ({ cls := "CoinJudgeModel", name := "makeTx", desc := "(I)V" } : MethodName) ∈ lw_tbl := List.mem_append_left _ (List.mem_of_getElem? (i := 57) (by decide +kernel))
theorem kxp_58 : Cond.selects "CoinJudgeModel" ({ cls := "CoinJudgeModel", name := "make", desc := "(JI)V" } : MethodName) ({ cls := "CoinJudgeModel", name := "make", desc := "(JI)V" } : MethodName) ∈ lw_tbl := List.mem_append_left _ (List.mem_of_getElem? (i := 58) (by decide +kernel))
theorem kxp_59 : Cond.selects "CoinJudgeModel" ({ cls := "CoinJudgeModel", name := "makeCount", desc := "(I)V" } : MethodName) ({ cls := "CoinJudgeModel", name := "makeCount", desc := "(I)V" } : MethodName) ∈ lw_tbl := List.mem_append_left _ (List.mem_of_getElem? (i := 59) (by decide +kernel))
theorem kxp_60 : Cond.selects "CoinJudgeModel" ({ cls := "CoinJudgeModel", name := "make", desc := "([BII)V" } : MethodName) ({ cls := "CoinJudgeModel", name := "make", desc := "([BII)V" } : MethodName) ∈ lw_tbl := List.mem_append_left _ (List.mem_of_getElem? (i := 60) (by decide +kernel))
theorem kxp_127 : Cond.selects "CoinJudgeModel" ({ cls := "CoinJudgeModel", name := "good", desc := "(ZI)Z" } : MethodName) ({ cls := "CoinJudgeModel", name := "good", desc := "(ZI)Z" } : MethodName) ∈ lw_tbl := List.mem_append_left _ (List.mem_of_getElem? (i := 127) (by decide +kernel))
theorem kxp_128 : Cond.selects "CoinJudgeModel" ({ cls := "CoinJudgeModel", name := "four", desc := "(I)V" } : MethodName) ({ cls := "CoinJudgeModel", name := "four", desc := "(I)V" } : MethodName) ∈ lw_tbl := List.mem_append_left _ (List.mem_of_getElem? (i := 128) (by decide +kernel))
theorem kxp_129 : Cond.selects "CoinJudgeModel" ({ cls := "CoinJudgeModel", name := "keyOf", desc := "(I)V" } : MethodName) ({ cls := "CoinJudgeModel", name := "keyOf", desc := "(I)V" } : MethodName) ∈ lw_tbl := List.mem_append_left _ (List.mem_of_getElem? (i := 129) (by decide +kernel))
theorem kxp_130 : Cond.selects "CoinJudgeModel" ({ cls := "CoinJudgeModel", name := "hasInput", desc := "(I)Z" } : MethodName) ({ cls := "CoinJudgeModel", name := "hasInput", desc := "(I)Z" } : MethodName) ∈ lw_tbl := List.mem_append_left _ (List.mem_of_getElem? (i := 130) (by decide +kernel))
theorem kxp_131 : Cond.selects "CoinJudgeModel" ({ cls := "CoinJudgeModel", name := "pushTo", desc := "(I[BI)V" } : MethodName) ({ cls := "CoinJudgeModel", name := "pushTo", desc := "(I[BI)V" } : MethodName) ∈ lw_tbl := List.mem_append_left _ (List.mem_of_getElem? (i := 131) (by decide +kernel))
theorem kxp_132 : Cond.selects "CoinJudgeModel" ({ cls := "CoinJudgeModel", name := "der", desc := "([I)V" } : MethodName) ({ cls := "CoinJudgeModel", name := "der", desc := "([I)V" } : MethodName) ∈ lw_tbl := List.mem_append_left _ (List.mem_of_getElem? (i := 132) (by decide +kernel))
theorem kxp_133 : Cond.selects "CoinJudgeModel" ({ cls := "CoinJudgeModel", name := "refuse", desc := "(I)I" } : MethodName) ({ cls := "CoinJudgeModel", name := "refuse", desc := "(I)I" } : MethodName) ∈ lw_tbl := List.mem_append_left _ (List.mem_of_getElem? (i := 133) (by decide +kernel))

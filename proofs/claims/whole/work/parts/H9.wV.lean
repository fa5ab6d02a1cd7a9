abbrev mX16_asks : ks_M := (RX16, cX16_asks, 9, (some .int), "asks")
def drX16_asks : List (Nat × Instr × Nat) := [(0, .iconst 0, 1), (1, .istore 4, 2), (3, .iload_n 2, 1), (4, .istore 5, 2), (6, .iload_n 2, 1), (7, .iload_n 3, 1), (8, .iadd, 1), (9, .istore 6, 2), (11, .iload 5, 2), (13, .iload 6, 2), (15, .if_icmp .ge 77, 3), (18, .aload_n 1, 1), (19, .iload 5, 2), (21, .baload, 1), (22, .sipush 255, 3), (25, .iand, 1), (26, .istore 7, 2), (28, .iload 7, 2), (30, .sipush 172, 3), (33, .if_icmp .eq 11, 3), (36, .iload 7, 2), (38, .sipush 173, 3), (41, .if_icmp .ne 6, 3), (44, .iinc 4 1, 3), (47, .iload 7, 2), (49, .sipush 174, 3), (52, .if_icmp .eq 11, 3), (55, .iload 7, 2), (57, .sipush 175, 3), (60, .if_icmp .ne 6, 3), (63, .iinc 4 20, 3), (66, .aload_n 0, 1), (67, .aload_n 1, 1), (68, .iload 5, 2), (70, .iload 6, 2), (72, .invokevirtual 423, 3), (75, .istore 8, 2), (77, .iload 8, 2), (79, .ifCond .ge 6, 3), (82, .iload 4, 2), (84, .ireturn, 1), (85, .iload 8, 2), (87, .istore 5, 2), (89, .goto (-78), 3), (92, .iload 4, 2), (94, .ireturn, 1)]
set_option maxRecDepth 100000 in
theorem daX16_asks : dk_all cX16_asks drX16_asks = true := by decide +kernel
theorem dX16_asks_0 : decode cX16_asks 0 = .ok (.iconst 0, 1) := dk_get daX16_asks 0 (r := (0, .iconst 0, 1)) rfl
theorem dX16_asks_1 : decode cX16_asks 1 = .ok (.istore 4, 2) := dk_get daX16_asks 1 (r := (1, .istore 4, 2)) rfl
theorem dX16_asks_3 : decode cX16_asks 3 = .ok (.iload_n 2, 1) := dk_get daX16_asks 2 (r := (3, .iload_n 2, 1)) rfl
theorem dX16_asks_4 : decode cX16_asks 4 = .ok (.istore 5, 2) := dk_get daX16_asks 3 (r := (4, .istore 5, 2)) rfl
theorem dX16_asks_6 : decode cX16_asks 6 = .ok (.iload_n 2, 1) := dk_get daX16_asks 4 (r := (6, .iload_n 2, 1)) rfl
theorem dX16_asks_7 : decode cX16_asks 7 = .ok (.iload_n 3, 1) := dk_get daX16_asks 5 (r := (7, .iload_n 3, 1)) rfl
theorem dX16_asks_8 : decode cX16_asks 8 = .ok (.iadd, 1) := dk_get daX16_asks 6 (r := (8, .iadd, 1)) rfl
theorem dX16_asks_9 : decode cX16_asks 9 = .ok (.istore 6, 2) := dk_get daX16_asks 7 (r := (9, .istore 6, 2)) rfl
theorem dX16_asks_11 : decode cX16_asks 11 = .ok (.iload 5, 2) := dk_get daX16_asks 8 (r := (11, .iload 5, 2)) rfl
theorem dX16_asks_13 : decode cX16_asks 13 = .ok (.iload 6, 2) := dk_get daX16_asks 9 (r := (13, .iload 6, 2)) rfl
theorem dX16_asks_15 : decode cX16_asks 15 = .ok (.if_icmp .ge 77, 3) := dk_get daX16_asks 10 (r := (15, .if_icmp .ge 77, 3)) rfl
theorem dX16_asks_18 : decode cX16_asks 18 = .ok (.aload_n 1, 1) := dk_get daX16_asks 11 (r := (18, .aload_n 1, 1)) rfl
theorem dX16_asks_19 : decode cX16_asks 19 = .ok (.iload 5, 2) := dk_get daX16_asks 12 (r := (19, .iload 5, 2)) rfl
theorem dX16_asks_21 : decode cX16_asks 21 = .ok (.baload, 1) := dk_get daX16_asks 13 (r := (21, .baload, 1)) rfl
theorem dX16_asks_22 : decode cX16_asks 22 = .ok (.sipush 255, 3) := dk_get daX16_asks 14 (r := (22, .sipush 255, 3)) rfl
theorem dX16_asks_25 : decode cX16_asks 25 = .ok (.iand, 1) := dk_get daX16_asks 15 (r := (25, .iand, 1)) rfl
theorem dX16_asks_26 : decode cX16_asks 26 = .ok (.istore 7, 2) := dk_get daX16_asks 16 (r := (26, .istore 7, 2)) rfl
theorem dX16_asks_28 : decode cX16_asks 28 = .ok (.iload 7, 2) := dk_get daX16_asks 17 (r := (28, .iload 7, 2)) rfl
theorem dX16_asks_30 : decode cX16_asks 30 = .ok (.sipush 172, 3) := dk_get daX16_asks 18 (r := (30, .sipush 172, 3)) rfl
theorem dX16_asks_33 : decode cX16_asks 33 = .ok (.if_icmp .eq 11, 3) := dk_get daX16_asks 19 (r := (33, .if_icmp .eq 11, 3)) rfl
theorem dX16_asks_36 : decode cX16_asks 36 = .ok (.iload 7, 2) := dk_get daX16_asks 20 (r := (36, .iload 7, 2)) rfl
theorem dX16_asks_38 : decode cX16_asks 38 = .ok (.sipush 173, 3) := dk_get daX16_asks 21 (r := (38, .sipush 173, 3)) rfl
theorem dX16_asks_41 : decode cX16_asks 41 = .ok (.if_icmp .ne 6, 3) := dk_get daX16_asks 22 (r := (41, .if_icmp .ne 6, 3)) rfl
theorem dX16_asks_44 : decode cX16_asks 44 = .ok (.iinc 4 1, 3) := dk_get daX16_asks 23 (r := (44, .iinc 4 1, 3)) rfl
theorem dX16_asks_47 : decode cX16_asks 47 = .ok (.iload 7, 2) := dk_get daX16_asks 24 (r := (47, .iload 7, 2)) rfl
theorem dX16_asks_49 : decode cX16_asks 49 = .ok (.sipush 174, 3) := dk_get daX16_asks 25 (r := (49, .sipush 174, 3)) rfl
theorem dX16_asks_52 : decode cX16_asks 52 = .ok (.if_icmp .eq 11, 3) := dk_get daX16_asks 26 (r := (52, .if_icmp .eq 11, 3)) rfl
theorem dX16_asks_55 : decode cX16_asks 55 = .ok (.iload 7, 2) := dk_get daX16_asks 27 (r := (55, .iload 7, 2)) rfl
theorem dX16_asks_57 : decode cX16_asks 57 = .ok (.sipush 175, 3) := dk_get daX16_asks 28 (r := (57, .sipush 175, 3)) rfl
theorem dX16_asks_60 : decode cX16_asks 60 = .ok (.if_icmp .ne 6, 3) := dk_get daX16_asks 29 (r := (60, .if_icmp .ne 6, 3)) rfl
theorem dX16_asks_63 : decode cX16_asks 63 = .ok (.iinc 4 20, 3) := dk_get daX16_asks 30 (r := (63, .iinc 4 20, 3)) rfl
theorem dX16_asks_66 : decode cX16_asks 66 = .ok (.aload_n 0, 1) := dk_get daX16_asks 31 (r := (66, .aload_n 0, 1)) rfl
theorem dX16_asks_67 : decode cX16_asks 67 = .ok (.aload_n 1, 1) := dk_get daX16_asks 32 (r := (67, .aload_n 1, 1)) rfl
theorem dX16_asks_68 : decode cX16_asks 68 = .ok (.iload 5, 2) := dk_get daX16_asks 33 (r := (68, .iload 5, 2)) rfl
theorem dX16_asks_70 : decode cX16_asks 70 = .ok (.iload 6, 2) := dk_get daX16_asks 34 (r := (70, .iload 6, 2)) rfl
theorem dX16_asks_72 : decode cX16_asks 72 = .ok (.invokevirtual 423, 3) := dk_get daX16_asks 35 (r := (72, .invokevirtual 423, 3)) rfl
theorem dX16_asks_75 : decode cX16_asks 75 = .ok (.istore 8, 2) := dk_get daX16_asks 36 (r := (75, .istore 8, 2)) rfl
theorem dX16_asks_77 : decode cX16_asks 77 = .ok (.iload 8, 2) := dk_get daX16_asks 37 (r := (77, .iload 8, 2)) rfl
theorem dX16_asks_79 : decode cX16_asks 79 = .ok (.ifCond .ge 6, 3) := dk_get daX16_asks 38 (r := (79, .ifCond .ge 6, 3)) rfl
theorem dX16_asks_82 : decode cX16_asks 82 = .ok (.iload 4, 2) := dk_get daX16_asks 39 (r := (82, .iload 4, 2)) rfl
theorem dX16_asks_84 : decode cX16_asks 84 = .ok (.ireturn, 1) := dk_get daX16_asks 40 (r := (84, .ireturn, 1)) rfl
theorem dX16_asks_85 : decode cX16_asks 85 = .ok (.iload 8, 2) := dk_get daX16_asks 41 (r := (85, .iload 8, 2)) rfl
theorem dX16_asks_87 : decode cX16_asks 87 = .ok (.istore 5, 2) := dk_get daX16_asks 42 (r := (87, .istore 5, 2)) rfl
theorem dX16_asks_89 : decode cX16_asks 89 = .ok (.goto (-78), 3) := dk_get daX16_asks 43 (r := (89, .goto (-78), 3)) rfl
theorem dX16_asks_92 : decode cX16_asks 92 = .ok (.iload 4, 2) := dk_get daX16_asks 44 (r := (92, .iload 4, 2)) rfl
theorem dX16_asks_94 : decode cX16_asks 94 = .ok (.ireturn, 1) := dk_get daX16_asks 45 (r := (94, .ireturn, 1)) rfl
abbrev mX16_behind : ks_M := (RX16, cX16_behind, 8, (some .int), "behind")
def drX16_behind : List (Nat × Instr × Nat) := [(0, .aload_n 1, 1), (1, .iload_n 2, 1), (2, .baload, 1), (3, .sipush 255, 3), (6, .iand, 1), (7, .istore 4, 2), (9, .aload_n 0, 1), (10, .iconst 0, 1), (11, .putfield 427, 3), (14, .iload 4, 2), (16, .bipush 78, 2), (18, .if_icmp .gt 8, 3), (21, .iload 4, 2), (23, .ifCond .ne 7, 3), (26, .iload_n 2, 1), (27, .iconst 1, 1), (28, .iadd, 1), (29, .ireturn, 1), (30, .iload 4, 2), (32, .bipush 76, 2), (34, .if_icmp .ge 7, 3), (37, .iconst 0, 1), (38, .goto 26, 3), (41, .iload 4, 2), (43, .bipush 76, 2), (45, .if_icmp .ne 7, 3), (48, .iconst 1, 1), (49, .goto 15, 3), (52, .iload 4, 2), (54, .bipush 77, 2), (56, .if_icmp .ne 7, 3), (59, .iconst 2, 1), (60, .goto 4, 3), (63, .iconst 4, 1), (64, .istore 5, 2), (66, .iload 5, 2), (68, .iload_n 3, 1), (69, .iload_n 2, 1), (70, .isub, 1), (71, .iconst 1, 1), (72, .isub, 1), (73, .if_icmp .le 5, 3), (76, .iconst (-1), 1), (77, .ireturn, 1), (78, .iload 5, 2), (80, .ifCond .ne 9, 3), (83, .iload 4, 2), (85, .i2l, 1), (86, .goto 13, 3), (89, .aload_n 0, 1), (90, .aload_n 1, 1), (91, .iload_n 2, 1), (92, .iconst 1, 1), (93, .iadd, 1), (94, .iload 5, 2), (96, .invokevirtual 267, 3), (99, .lstore 6, 2), (101, .lload 6, 2), (103, .iload_n 3, 1), (104, .iload_n 2, 1), (105, .isub, 1), (106, .iconst 1, 1), (107, .isub, 1), (108, .iload 5, 2), (110, .isub, 1), (111, .i2l, 1), (112, .lcmp, 1), (113, .ifCond .le 5, 3), (116, .iconst (-1), 1), (117, .ireturn, 1), (118, .aload_n 0, 1), (119, .lload 6, 2), (121, .l2i, 1), (122, .putfield 427, 3), (125, .iload_n 2, 1), (126, .iconst 1, 1), (127, .iadd, 1), (128, .iload 5, 2), (130, .iadd, 1), (131, .aload_n 0, 1), (132, .getfield 427, 3), (135, .iadd, 1), (136, .ireturn, 1)]
set_option maxRecDepth 100000 in
theorem daX16_behind : dk_all cX16_behind drX16_behind = true := by decide +kernel
theorem dX16_behind_0 : decode cX16_behind 0 = .ok (.aload_n 1, 1) := dk_get daX16_behind 0 (r := (0, .aload_n 1, 1)) rfl
theorem dX16_behind_1 : decode cX16_behind 1 = .ok (.iload_n 2, 1) := dk_get daX16_behind 1 (r := (1, .iload_n 2, 1)) rfl
theorem dX16_behind_2 : decode cX16_behind 2 = .ok (.baload, 1) := dk_get daX16_behind 2 (r := (2, .baload, 1)) rfl
theorem dX16_behind_3 : decode cX16_behind 3 = .ok (.sipush 255, 3) := dk_get daX16_behind 3 (r := (3, .sipush 255, 3)) rfl
theorem dX16_behind_6 : decode cX16_behind 6 = .ok (.iand, 1) := dk_get daX16_behind 4 (r := (6, .iand, 1)) rfl
theorem dX16_behind_7 : decode cX16_behind 7 = .ok (.istore 4, 2) := dk_get daX16_behind 5 (r := (7, .istore 4, 2)) rfl
theorem dX16_behind_9 : decode cX16_behind 9 = .ok (.aload_n 0, 1) := dk_get daX16_behind 6 (r := (9, .aload_n 0, 1)) rfl
theorem dX16_behind_10 : decode cX16_behind 10 = .ok (.iconst 0, 1) := dk_get daX16_behind 7 (r := (10, .iconst 0, 1)) rfl
theorem dX16_behind_11 : decode cX16_behind 11 = .ok (.putfield 427, 3) := dk_get daX16_behind 8 (r := (11, .putfield 427, 3)) rfl
theorem dX16_behind_14 : decode cX16_behind 14 = .ok (.iload 4, 2) := dk_get daX16_behind 9 (r := (14, .iload 4, 2)) rfl
theorem dX16_behind_16 : decode cX16_behind 16 = .ok (.bipush 78, 2) := dk_get daX16_behind 10 (r := (16, .bipush 78, 2)) rfl
theorem dX16_behind_18 : decode cX16_behind 18 = .ok (.if_icmp .gt 8, 3) := dk_get daX16_behind 11 (r := (18, .if_icmp .gt 8, 3)) rfl
theorem dX16_behind_21 : decode cX16_behind 21 = .ok (.iload 4, 2) := dk_get daX16_behind 12 (r := (21, .iload 4, 2)) rfl
theorem dX16_behind_23 : decode cX16_behind 23 = .ok (.ifCond .ne 7, 3) := dk_get daX16_behind 13 (r := (23, .ifCond .ne 7, 3)) rfl
theorem dX16_behind_26 : decode cX16_behind 26 = .ok (.iload_n 2, 1) := dk_get daX16_behind 14 (r := (26, .iload_n 2, 1)) rfl
theorem dX16_behind_27 : decode cX16_behind 27 = .ok (.iconst 1, 1) := dk_get daX16_behind 15 (r := (27, .iconst 1, 1)) rfl
theorem dX16_behind_28 : decode cX16_behind 28 = .ok (.iadd, 1) := dk_get daX16_behind 16 (r := (28, .iadd, 1)) rfl
theorem dX16_behind_29 : decode cX16_behind 29 = .ok (.ireturn, 1) := dk_get daX16_behind 17 (r := (29, .ireturn, 1)) rfl
theorem dX16_behind_30 : decode cX16_behind 30 = .ok (.iload 4, 2) := dk_get daX16_behind 18 (r := (30, .iload 4, 2)) rfl
theorem dX16_behind_32 : decode cX16_behind 32 = .ok (.bipush 76, 2) := dk_get daX16_behind 19 (r := (32, .bipush 76, 2)) rfl
theorem dX16_behind_34 : decode cX16_behind 34 = .ok (.if_icmp .ge 7, 3) := dk_get daX16_behind 20 (r := (34, .if_icmp .ge 7, 3)) rfl
theorem dX16_behind_37 : decode cX16_behind 37 = .ok (.iconst 0, 1) := dk_get daX16_behind 21 (r := (37, .iconst 0, 1)) rfl
theorem dX16_behind_38 : decode cX16_behind 38 = .ok (.goto 26, 3) := dk_get daX16_behind 22 (r := (38, .goto 26, 3)) rfl
theorem dX16_behind_41 : decode cX16_behind 41 = .ok (.iload 4, 2) := dk_get daX16_behind 23 (r := (41, .iload 4, 2)) rfl
theorem dX16_behind_43 : decode cX16_behind 43 = .ok (.bipush 76, 2) := dk_get daX16_behind 24 (r := (43, .bipush 76, 2)) rfl
theorem dX16_behind_45 : decode cX16_behind 45 = .ok (.if_icmp .ne 7, 3) := dk_get daX16_behind 25 (r := (45, .if_icmp .ne 7, 3)) rfl
theorem dX16_behind_48 : decode cX16_behind 48 = .ok (.iconst 1, 1) := dk_get daX16_behind 26 (r := (48, .iconst 1, 1)) rfl
theorem dX16_behind_49 : decode cX16_behind 49 = .ok (.goto 15, 3) := dk_get daX16_behind 27 (r := (49, .goto 15, 3)) rfl
theorem dX16_behind_52 : decode cX16_behind 52 = .ok (.iload 4, 2) := dk_get daX16_behind 28 (r := (52, .iload 4, 2)) rfl
theorem dX16_behind_54 : decode cX16_behind 54 = .ok (.bipush 77, 2) := dk_get daX16_behind 29 (r := (54, .bipush 77, 2)) rfl
theorem dX16_behind_56 : decode cX16_behind 56 = .ok (.if_icmp .ne 7, 3) := dk_get daX16_behind 30 (r := (56, .if_icmp .ne 7, 3)) rfl
theorem dX16_behind_59 : decode cX16_behind 59 = .ok (.iconst 2, 1) := dk_get daX16_behind 31 (r := (59, .iconst 2, 1)) rfl
theorem dX16_behind_60 : decode cX16_behind 60 = .ok (.goto 4, 3) := dk_get daX16_behind 32 (r := (60, .goto 4, 3)) rfl
theorem dX16_behind_63 : decode cX16_behind 63 = .ok (.iconst 4, 1) := dk_get daX16_behind 33 (r := (63, .iconst 4, 1)) rfl
theorem dX16_behind_64 : decode cX16_behind 64 = .ok (.istore 5, 2) := dk_get daX16_behind 34 (r := (64, .istore 5, 2)) rfl
theorem dX16_behind_66 : decode cX16_behind 66 = .ok (.iload 5, 2) := dk_get daX16_behind 35 (r := (66, .iload 5, 2)) rfl
theorem dX16_behind_68 : decode cX16_behind 68 = .ok (.iload_n 3, 1) := dk_get daX16_behind 36 (r := (68, .iload_n 3, 1)) rfl
theorem dX16_behind_69 : decode cX16_behind 69 = .ok (.iload_n 2, 1) := dk_get daX16_behind 37 (r := (69, .iload_n 2, 1)) rfl
theorem dX16_behind_70 : decode cX16_behind 70 = .ok (.isub, 1) := dk_get daX16_behind 38 (r := (70, .isub, 1)) rfl
theorem dX16_behind_71 : decode cX16_behind 71 = .ok (.iconst 1, 1) := dk_get daX16_behind 39 (r := (71, .iconst 1, 1)) rfl
theorem dX16_behind_72 : decode cX16_behind 72 = .ok (.isub, 1) := dk_get daX16_behind 40 (r := (72, .isub, 1)) rfl
theorem dX16_behind_73 : decode cX16_behind 73 = .ok (.if_icmp .le 5, 3) := dk_get daX16_behind 41 (r := (73, .if_icmp .le 5, 3)) rfl
theorem dX16_behind_76 : decode cX16_behind 76 = .ok (.iconst (-1), 1) := dk_get daX16_behind 42 (r := (76, .iconst (-1), 1)) rfl
theorem dX16_behind_77 : decode cX16_behind 77 = .ok (.ireturn, 1) := dk_get daX16_behind 43 (r := (77, .ireturn, 1)) rfl
theorem dX16_behind_78 : decode cX16_behind 78 = .ok (.iload 5, 2) := dk_get daX16_behind 44 (r := (78, .iload 5, 2)) rfl
theorem dX16_behind_80 : decode cX16_behind 80 = .ok (.ifCond .ne 9, 3) := dk_get daX16_behind 45 (r := (80, .ifCond .ne 9, 3)) rfl
theorem dX16_behind_83 : decode cX16_behind 83 = .ok (.iload 4, 2) := dk_get daX16_behind 46 (r := (83, .iload 4, 2)) rfl
theorem dX16_behind_85 : decode cX16_behind 85 = .ok (.i2l, 1) := dk_get daX16_behind 47 (r := (85, .i2l, 1)) rfl
theorem dX16_behind_86 : decode cX16_behind 86 = .ok (.goto 13, 3) := dk_get daX16_behind 48 (r := (86, .goto 13, 3)) rfl
theorem dX16_behind_89 : decode cX16_behind 89 = .ok (.aload_n 0, 1) := dk_get daX16_behind 49 (r := (89, .aload_n 0, 1)) rfl
theorem dX16_behind_90 : decode cX16_behind 90 = .ok (.aload_n 1, 1) := dk_get daX16_behind 50 (r := (90, .aload_n 1, 1)) rfl
theorem dX16_behind_91 : decode cX16_behind 91 = .ok (.iload_n 2, 1) := dk_get daX16_behind 51 (r := (91, .iload_n 2, 1)) rfl
theorem dX16_behind_92 : decode cX16_behind 92 = .ok (.iconst 1, 1) := dk_get daX16_behind 52 (r := (92, .iconst 1, 1)) rfl
theorem dX16_behind_93 : decode cX16_behind 93 = .ok (.iadd, 1) := dk_get daX16_behind 53 (r := (93, .iadd, 1)) rfl
theorem dX16_behind_94 : decode cX16_behind 94 = .ok (.iload 5, 2) := dk_get daX16_behind 54 (r := (94, .iload 5, 2)) rfl
theorem dX16_behind_96 : decode cX16_behind 96 = .ok (.invokevirtual 267, 3) := dk_get daX16_behind 55 (r := (96, .invokevirtual 267, 3)) rfl
theorem dX16_behind_99 : decode cX16_behind 99 = .ok (.lstore 6, 2) := dk_get daX16_behind 56 (r := (99, .lstore 6, 2)) rfl
theorem dX16_behind_101 : decode cX16_behind 101 = .ok (.lload 6, 2) := dk_get daX16_behind 57 (r := (101, .lload 6, 2)) rfl
theorem dX16_behind_103 : decode cX16_behind 103 = .ok (.iload_n 3, 1) := dk_get daX16_behind 58 (r := (103, .iload_n 3, 1)) rfl
theorem dX16_behind_104 : decode cX16_behind 104 = .ok (.iload_n 2, 1) := dk_get daX16_behind 59 (r := (104, .iload_n 2, 1)) rfl
theorem dX16_behind_105 : decode cX16_behind 105 = .ok (.isub, 1) := dk_get daX16_behind 60 (r := (105, .isub, 1)) rfl
theorem dX16_behind_106 : decode cX16_behind 106 = .ok (.iconst 1, 1) := dk_get daX16_behind 61 (r := (106, .iconst 1, 1)) rfl
theorem dX16_behind_107 : decode cX16_behind 107 = .ok (.isub, 1) := dk_get daX16_behind 62 (r := (107, .isub, 1)) rfl
theorem dX16_behind_108 : decode cX16_behind 108 = .ok (.iload 5, 2) := dk_get daX16_behind 63 (r := (108, .iload 5, 2)) rfl
theorem dX16_behind_110 : decode cX16_behind 110 = .ok (.isub, 1) := dk_get daX16_behind 64 (r := (110, .isub, 1)) rfl
theorem dX16_behind_111 : decode cX16_behind 111 = .ok (.i2l, 1) := dk_get daX16_behind 65 (r := (111, .i2l, 1)) rfl
theorem dX16_behind_112 : decode cX16_behind 112 = .ok (.lcmp, 1) := dk_get daX16_behind 66 (r := (112, .lcmp, 1)) rfl
theorem dX16_behind_113 : decode cX16_behind 113 = .ok (.ifCond .le 5, 3) := dk_get daX16_behind 67 (r := (113, .ifCond .le 5, 3)) rfl
theorem dX16_behind_116 : decode cX16_behind 116 = .ok (.iconst (-1), 1) := dk_get daX16_behind 68 (r := (116, .iconst (-1), 1)) rfl
theorem dX16_behind_117 : decode cX16_behind 117 = .ok (.ireturn, 1) := dk_get daX16_behind 69 (r := (117, .ireturn, 1)) rfl
theorem dX16_behind_118 : decode cX16_behind 118 = .ok (.aload_n 0, 1) := dk_get daX16_behind 70 (r := (118, .aload_n 0, 1)) rfl
theorem dX16_behind_119 : decode cX16_behind 119 = .ok (.lload 6, 2) := dk_get daX16_behind 71 (r := (119, .lload 6, 2)) rfl
theorem dX16_behind_121 : decode cX16_behind 121 = .ok (.l2i, 1) := dk_get daX16_behind 72 (r := (121, .l2i, 1)) rfl
theorem dX16_behind_122 : decode cX16_behind 122 = .ok (.putfield 427, 3) := dk_get daX16_behind 73 (r := (122, .putfield 427, 3)) rfl
theorem dX16_behind_125 : decode cX16_behind 125 = .ok (.iload_n 2, 1) := dk_get daX16_behind 74 (r := (125, .iload_n 2, 1)) rfl
theorem dX16_behind_126 : decode cX16_behind 126 = .ok (.iconst 1, 1) := dk_get daX16_behind 75 (r := (126, .iconst 1, 1)) rfl
theorem dX16_behind_127 : decode cX16_behind 127 = .ok (.iadd, 1) := dk_get daX16_behind 76 (r := (127, .iadd, 1)) rfl
theorem dX16_behind_128 : decode cX16_behind 128 = .ok (.iload 5, 2) := dk_get daX16_behind 77 (r := (128, .iload 5, 2)) rfl
theorem dX16_behind_130 : decode cX16_behind 130 = .ok (.iadd, 1) := dk_get daX16_behind 78 (r := (130, .iadd, 1)) rfl
theorem dX16_behind_131 : decode cX16_behind 131 = .ok (.aload_n 0, 1) := dk_get daX16_behind 79 (r := (131, .aload_n 0, 1)) rfl
theorem dX16_behind_132 : decode cX16_behind 132 = .ok (.getfield 427, 3) := dk_get daX16_behind 80 (r := (132, .getfield 427, 3)) rfl
theorem dX16_behind_135 : decode cX16_behind 135 = .ok (.iadd, 1) := dk_get daX16_behind 81 (r := (135, .iadd, 1)) rfl
theorem dX16_behind_136 : decode cX16_behind 136 = .ok (.ireturn, 1) := dk_get daX16_behind 82 (r := (136, .ireturn, 1)) rfl
abbrev mX16_isLast : ks_M := (RX16, cX16_isLast, 10, (some .boolean), "isLast")
def drX16_isLast : List (Nat × Instr × Nat) := [(0, .aload_n 0, 1), (1, .aload_n 1, 1), (2, .getfield 275, 3), (5, .aload_n 1, 1), (6, .getfield 313, 3), (9, .iload_n 2, 1), (10, .iaload, 1), (11, .iconst 4, 1), (12, .isub, 1), (13, .iconst 4, 1), (14, .invokevirtual 267, 3), (17, .lstore 6, 2), (19, .lload 6, 2), (21, .lconst 0, 1), (22, .lcmp, 1), (23, .ifCond .eq 25, 3), (26, .lload 6, 2), (28, .lload 6, 2), (30, .ldc2_w 430, 3), (33, .lcmp, 1), (34, .ifCond .ge 8, 3), (37, .iload_n 3, 1), (38, .i2l, 1), (39, .goto 5, 3), (42, .lload 4, 2), (44, .lcmp, 1), (45, .ifCond .ge 5, 3), (48, .iconst 1, 1), (49, .ireturn, 1), (50, .iconst 0, 1), (51, .istore 8, 2), (53, .iload 8, 2), (55, .aload_n 1, 1), (56, .getfield 297, 3), (59, .iload_n 2, 1), (60, .iaload, 1), (61, .if_icmp .ge 50, 3), (64, .aload_n 0, 1), (65, .aload_n 1, 1), (66, .getfield 275, 3), (69, .aload_n 0, 1), (70, .aload_n 1, 1), (71, .iload_n 2, 1), (72, .iload 8, 2), (74, .invokevirtual 419, 3), (77, .bipush 36, 2), (79, .iadd, 1), (80, .invokevirtual 328, 3), (83, .istore 9, 2), (85, .aload_n 0, 1), (86, .aload_n 1, 1), (87, .getfield 275, 3), (90, .iload 9, 2), (92, .iconst 4, 1), (93, .invokevirtual 267, 3), (96, .ldc2_w 380, 3), (99, .lcmp, 1), (100, .ifCond .eq 5, 3), (103, .iconst 0, 1), (104, .ireturn, 1), (105, .iinc 8 1, 3), (108, .goto (-55), 3), (111, .iconst 1, 1), (112, .ireturn, 1)]
set_option maxRecDepth 100000 in
theorem daX16_isLast : dk_all cX16_isLast drX16_isLast = true := by decide +kernel
theorem dX16_isLast_0 : decode cX16_isLast 0 = .ok (.aload_n 0, 1) := dk_get daX16_isLast 0 (r := (0, .aload_n 0, 1)) rfl
theorem dX16_isLast_1 : decode cX16_isLast 1 = .ok (.aload_n 1, 1) := dk_get daX16_isLast 1 (r := (1, .aload_n 1, 1)) rfl
theorem dX16_isLast_2 : decode cX16_isLast 2 = .ok (.getfield 275, 3) := dk_get daX16_isLast 2 (r := (2, .getfield 275, 3)) rfl
theorem dX16_isLast_5 : decode cX16_isLast 5 = .ok (.aload_n 1, 1) := dk_get daX16_isLast 3 (r := (5, .aload_n 1, 1)) rfl
theorem dX16_isLast_6 : decode cX16_isLast 6 = .ok (.getfield 313, 3) := dk_get daX16_isLast 4 (r := (6, .getfield 313, 3)) rfl
theorem dX16_isLast_9 : decode cX16_isLast 9 = .ok (.iload_n 2, 1) := dk_get daX16_isLast 5 (r := (9, .iload_n 2, 1)) rfl
theorem dX16_isLast_10 : decode cX16_isLast 10 = .ok (.iaload, 1) := dk_get daX16_isLast 6 (r := (10, .iaload, 1)) rfl
theorem dX16_isLast_11 : decode cX16_isLast 11 = .ok (.iconst 4, 1) := dk_get daX16_isLast 7 (r := (11, .iconst 4, 1)) rfl
theorem dX16_isLast_12 : decode cX16_isLast 12 = .ok (.isub, 1) := dk_get daX16_isLast 8 (r := (12, .isub, 1)) rfl
theorem dX16_isLast_13 : decode cX16_isLast 13 = .ok (.iconst 4, 1) := dk_get daX16_isLast 9 (r := (13, .iconst 4, 1)) rfl
theorem dX16_isLast_14 : decode cX16_isLast 14 = .ok (.invokevirtual 267, 3) := dk_get daX16_isLast 10 (r := (14, .invokevirtual 267, 3)) rfl
theorem dX16_isLast_17 : decode cX16_isLast 17 = .ok (.lstore 6, 2) := dk_get daX16_isLast 11 (r := (17, .lstore 6, 2)) rfl
theorem dX16_isLast_19 : decode cX16_isLast 19 = .ok (.lload 6, 2) := dk_get daX16_isLast 12 (r := (19, .lload 6, 2)) rfl
theorem dX16_isLast_21 : decode cX16_isLast 21 = .ok (.lconst 0, 1) := dk_get daX16_isLast 13 (r := (21, .lconst 0, 1)) rfl
theorem dX16_isLast_22 : decode cX16_isLast 22 = .ok (.lcmp, 1) := dk_get daX16_isLast 14 (r := (22, .lcmp, 1)) rfl
theorem dX16_isLast_23 : decode cX16_isLast 23 = .ok (.ifCond .eq 25, 3) := dk_get daX16_isLast 15 (r := (23, .ifCond .eq 25, 3)) rfl
theorem dX16_isLast_26 : decode cX16_isLast 26 = .ok (.lload 6, 2) := dk_get daX16_isLast 16 (r := (26, .lload 6, 2)) rfl
theorem dX16_isLast_28 : decode cX16_isLast 28 = .ok (.lload 6, 2) := dk_get daX16_isLast 17 (r := (28, .lload 6, 2)) rfl
theorem dX16_isLast_30 : decode cX16_isLast 30 = .ok (.ldc2_w 430, 3) := dk_get daX16_isLast 18 (r := (30, .ldc2_w 430, 3)) rfl
theorem dX16_isLast_33 : decode cX16_isLast 33 = .ok (.lcmp, 1) := dk_get daX16_isLast 19 (r := (33, .lcmp, 1)) rfl
theorem dX16_isLast_34 : decode cX16_isLast 34 = .ok (.ifCond .ge 8, 3) := dk_get daX16_isLast 20 (r := (34, .ifCond .ge 8, 3)) rfl
theorem dX16_isLast_37 : decode cX16_isLast 37 = .ok (.iload_n 3, 1) := dk_get daX16_isLast 21 (r := (37, .iload_n 3, 1)) rfl
theorem dX16_isLast_38 : decode cX16_isLast 38 = .ok (.i2l, 1) := dk_get daX16_isLast 22 (r := (38, .i2l, 1)) rfl
theorem dX16_isLast_39 : decode cX16_isLast 39 = .ok (.goto 5, 3) := dk_get daX16_isLast 23 (r := (39, .goto 5, 3)) rfl
theorem dX16_isLast_42 : decode cX16_isLast 42 = .ok (.lload 4, 2) := dk_get daX16_isLast 24 (r := (42, .lload 4, 2)) rfl
theorem dX16_isLast_44 : decode cX16_isLast 44 = .ok (.lcmp, 1) := dk_get daX16_isLast 25 (r := (44, .lcmp, 1)) rfl
theorem dX16_isLast_45 : decode cX16_isLast 45 = .ok (.ifCond .ge 5, 3) := dk_get daX16_isLast 26 (r := (45, .ifCond .ge 5, 3)) rfl
theorem dX16_isLast_48 : decode cX16_isLast 48 = .ok (.iconst 1, 1) := dk_get daX16_isLast 27 (r := (48, .iconst 1, 1)) rfl
theorem dX16_isLast_49 : decode cX16_isLast 49 = .ok (.ireturn, 1) := dk_get daX16_isLast 28 (r := (49, .ireturn, 1)) rfl
theorem dX16_isLast_50 : decode cX16_isLast 50 = .ok (.iconst 0, 1) := dk_get daX16_isLast 29 (r := (50, .iconst 0, 1)) rfl
theorem dX16_isLast_51 : decode cX16_isLast 51 = .ok (.istore 8, 2) := dk_get daX16_isLast 30 (r := (51, .istore 8, 2)) rfl
theorem dX16_isLast_53 : decode cX16_isLast 53 = .ok (.iload 8, 2) := dk_get daX16_isLast 31 (r := (53, .iload 8, 2)) rfl
theorem dX16_isLast_55 : decode cX16_isLast 55 = .ok (.aload_n 1, 1) := dk_get daX16_isLast 32 (r := (55, .aload_n 1, 1)) rfl
theorem dX16_isLast_56 : decode cX16_isLast 56 = .ok (.getfield 297, 3) := dk_get daX16_isLast 33 (r := (56, .getfield 297, 3)) rfl
theorem dX16_isLast_59 : decode cX16_isLast 59 = .ok (.iload_n 2, 1) := dk_get daX16_isLast 34 (r := (59, .iload_n 2, 1)) rfl
theorem dX16_isLast_60 : decode cX16_isLast 60 = .ok (.iaload, 1) := dk_get daX16_isLast 35 (r := (60, .iaload, 1)) rfl
theorem dX16_isLast_61 : decode cX16_isLast 61 = .ok (.if_icmp .ge 50, 3) := dk_get daX16_isLast 36 (r := (61, .if_icmp .ge 50, 3)) rfl
theorem dX16_isLast_64 : decode cX16_isLast 64 = .ok (.aload_n 0, 1) := dk_get daX16_isLast 37 (r := (64, .aload_n 0, 1)) rfl
theorem dX16_isLast_65 : decode cX16_isLast 65 = .ok (.aload_n 1, 1) := dk_get daX16_isLast 38 (r := (65, .aload_n 1, 1)) rfl
theorem dX16_isLast_66 : decode cX16_isLast 66 = .ok (.getfield 275, 3) := dk_get daX16_isLast 39 (r := (66, .getfield 275, 3)) rfl
theorem dX16_isLast_69 : decode cX16_isLast 69 = .ok (.aload_n 0, 1) := dk_get daX16_isLast 40 (r := (69, .aload_n 0, 1)) rfl
theorem dX16_isLast_70 : decode cX16_isLast 70 = .ok (.aload_n 1, 1) := dk_get daX16_isLast 41 (r := (70, .aload_n 1, 1)) rfl
theorem dX16_isLast_71 : decode cX16_isLast 71 = .ok (.iload_n 2, 1) := dk_get daX16_isLast 42 (r := (71, .iload_n 2, 1)) rfl
theorem dX16_isLast_72 : decode cX16_isLast 72 = .ok (.iload 8, 2) := dk_get daX16_isLast 43 (r := (72, .iload 8, 2)) rfl
theorem dX16_isLast_74 : decode cX16_isLast 74 = .ok (.invokevirtual 419, 3) := dk_get daX16_isLast 44 (r := (74, .invokevirtual 419, 3)) rfl
theorem dX16_isLast_77 : decode cX16_isLast 77 = .ok (.bipush 36, 2) := dk_get daX16_isLast 45 (r := (77, .bipush 36, 2)) rfl
theorem dX16_isLast_79 : decode cX16_isLast 79 = .ok (.iadd, 1) := dk_get daX16_isLast 46 (r := (79, .iadd, 1)) rfl
theorem dX16_isLast_80 : decode cX16_isLast 80 = .ok (.invokevirtual 328, 3) := dk_get daX16_isLast 47 (r := (80, .invokevirtual 328, 3)) rfl
theorem dX16_isLast_83 : decode cX16_isLast 83 = .ok (.istore 9, 2) := dk_get daX16_isLast 48 (r := (83, .istore 9, 2)) rfl
theorem dX16_isLast_85 : decode cX16_isLast 85 = .ok (.aload_n 0, 1) := dk_get daX16_isLast 49 (r := (85, .aload_n 0, 1)) rfl
theorem dX16_isLast_86 : decode cX16_isLast 86 = .ok (.aload_n 1, 1) := dk_get daX16_isLast 50 (r := (86, .aload_n 1, 1)) rfl
theorem dX16_isLast_87 : decode cX16_isLast 87 = .ok (.getfield 275, 3) := dk_get daX16_isLast 51 (r := (87, .getfield 275, 3)) rfl
theorem dX16_isLast_90 : decode cX16_isLast 90 = .ok (.iload 9, 2) := dk_get daX16_isLast 52 (r := (90, .iload 9, 2)) rfl
theorem dX16_isLast_92 : decode cX16_isLast 92 = .ok (.iconst 4, 1) := dk_get daX16_isLast 53 (r := (92, .iconst 4, 1)) rfl
theorem dX16_isLast_93 : decode cX16_isLast 93 = .ok (.invokevirtual 267, 3) := dk_get daX16_isLast 54 (r := (93, .invokevirtual 267, 3)) rfl
theorem dX16_isLast_96 : decode cX16_isLast 96 = .ok (.ldc2_w 380, 3) := dk_get daX16_isLast 55 (r := (96, .ldc2_w 380, 3)) rfl
theorem dX16_isLast_99 : decode cX16_isLast 99 = .ok (.lcmp, 1) := dk_get daX16_isLast 56 (r := (99, .lcmp, 1)) rfl
theorem dX16_isLast_100 : decode cX16_isLast 100 = .ok (.ifCond .eq 5, 3) := dk_get daX16_isLast 57 (r := (100, .ifCond .eq 5, 3)) rfl
theorem dX16_isLast_103 : decode cX16_isLast 103 = .ok (.iconst 0, 1) := dk_get daX16_isLast 58 (r := (103, .iconst 0, 1)) rfl
theorem dX16_isLast_104 : decode cX16_isLast 104 = .ok (.ireturn, 1) := dk_get daX16_isLast 59 (r := (104, .ireturn, 1)) rfl
theorem dX16_isLast_105 : decode cX16_isLast 105 = .ok (.iinc 8 1, 3) := dk_get daX16_isLast 60 (r := (105, .iinc 8 1, 3)) rfl
theorem dX16_isLast_108 : decode cX16_isLast 108 = .ok (.goto (-55), 3) := dk_get daX16_isLast 61 (r := (108, .goto (-55), 3)) rfl
theorem dX16_isLast_111 : decode cX16_isLast 111 = .ok (.iconst 1, 1) := dk_get daX16_isLast 62 (r := (111, .iconst 1, 1)) rfl
theorem dX16_isLast_112 : decode cX16_isLast 112 = .ok (.ireturn, 1) := dk_get daX16_isLast 63 (r := (112, .ireturn, 1)) rfl
abbrev mX16_fault : ks_M := (RX16, cX16_fault, 8, (some .int), "fault")
def drX16_fault : List (Nat × Instr × Nat) := [(0, .aload_n 0, 1), (1, .getfield 347, 3), (4, .iload_n 2, 1), (5, .aaload, 1), (6, .getfield 432, 3), (9, .ifCond .eq 5, 3), (12, .iconst 3, 1), (13, .ireturn, 1), (14, .aload_n 0, 1), (15, .aload_n 1, 1), (16, .getfield 275, 3), (19, .bipush 72, 2), (21, .iconst 4, 1), (22, .invokevirtual 267, 3), (25, .l2i, 1), (26, .aload_n 0, 1), (27, .iload_n 2, 1), (28, .invokevirtual 435, 3), (31, .if_icmp .eq 5, 3), (34, .iconst 4, 1), (35, .ireturn, 1), (36, .aload_n 0, 1), (37, .aload_n 1, 1), (38, .getfield 275, 3), (41, .bipush 68, 2), (43, .iconst 4, 1), (44, .invokevirtual 267, 3), (47, .lstore_n 3, 1), (48, .lload_n 3, 1), (49, .aload_n 0, 1), (50, .iload_n 2, 1), (51, .invokevirtual 438, 3), (54, .lcmp, 1), (55, .ifCond .gt 5, 3), (58, .iconst 5, 1), (59, .ireturn, 1), (60, .aload_n 1, 1), (61, .getfield 288, 3), (64, .ifCond .ne 6, 3), (67, .bipush 7, 2), (69, .ireturn, 1), (70, .aload_n 0, 1), (71, .aload_n 1, 1), (72, .getfield 316, 3), (75, .aload_n 1, 1), (76, .getfield 288, 3), (79, .invokevirtual 441, 3), (82, .aload_n 0, 1), (83, .getfield 394, 3), (86, .iconst 0, 1), (87, .aload_n 1, 1), (88, .getfield 275, 3), (91, .bipush 36, 2), (93, .bipush 32, 2), (95, .invokestatic 409, 3), (98, .ifCond .ne 6, 3), (101, .bipush 6, 2), (103, .ireturn, 1), (104, .iconst 0, 1), (105, .istore 5, 2), (107, .iload 5, 2), (109, .aload_n 1, 1), (110, .getfield 288, 3), (113, .if_icmp .ge 54, 3), (116, .iconst 0, 1), (117, .istore 6, 2), (119, .iload 6, 2), (121, .iload 5, 2), (123, .if_icmp .ge 38, 3), (126, .aload_n 1, 1), (127, .getfield 316, 3), (130, .bipush 32, 2), (132, .iload 5, 2), (134, .imul, 1), (135, .aload_n 1, 1), (136, .getfield 316, 3), (139, .bipush 32, 2), (141, .iload 6, 2), (143, .imul, 1), (144, .bipush 32, 2), (146, .invokestatic 409, 3), (149, .ifCond .eq 6, 3), (152, .bipush 6, 2), (154, .ireturn, 1), (155, .iinc 6 1, 3), (158, .goto (-39), 3), (161, .iinc 5 1, 3), (164, .goto (-57), 3), (167, .iconst 0, 1), (168, .istore 5, 2), (170, .iload 5, 2), (172, .aload_n 1, 1), (173, .getfield 288, 3), (176, .if_icmp .ge 26, 3), (179, .aload_n 0, 1), (180, .aload_n 1, 1), (181, .iload 5, 2), (183, .invokevirtual 443, 3), (186, .istore 6, 2), (188, .iload 6, 2), (190, .ifCond .eq 6, 3), (193, .iload 6, 2), (195, .ireturn, 1), (196, .iinc 5 1, 3), (199, .goto (-29), 3), (202, .iconst 0, 1), (203, .istore 5, 2), (205, .iconst 0, 1), (206, .istore 6, 2), (208, .iload 6, 2), (210, .aload_n 1, 1), (211, .getfield 288, 3), (214, .if_icmp .ge 135, 3), (217, .iconst 0, 1), (218, .istore 7, 2), (220, .iload 7, 2), (222, .aload_n 1, 1), (223, .getfield 297, 3), (226, .iload 6, 2), (228, .iaload, 1), (229, .if_icmp .ge 51, 3), (232, .aload_n 0, 1), (233, .aload_n 1, 1), (234, .getfield 275, 3), (237, .aload_n 0, 1), (238, .aload_n 1, 1), (239, .iload 6, 2), (241, .iload 7, 2), (243, .invokevirtual 419, 3), (246, .bipush 36, 2), (248, .iadd, 1), (249, .invokevirtual 328, 3), (252, .pop, 1), (253, .iload 5, 2), (255, .aload_n 0, 1), (256, .aload_n 1, 1), (257, .getfield 275, 3), (260, .aload_n 0, 1), (261, .getfield 325, 3), (264, .aload_n 0, 1), (265, .getfield 322, 3), (268, .invokevirtual 447, 3), (271, .iadd, 1), (272, .istore 5, 2), (274, .iinc 7 1, 3), (277, .goto (-57), 3), (280, .iconst 0, 1), (281, .istore 7, 2), (283, .iload 7, 2), (285, .aload_n 1, 1), (286, .getfield 307, 3), (289, .iload 6, 2), (291, .iaload, 1), (292, .if_icmp .ge 51, 3), (295, .aload_n 0, 1), (296, .aload_n 1, 1), (297, .getfield 275, 3), (300, .aload_n 0, 1), (301, .aload_n 1, 1), (302, .iload 6, 2), (304, .iload 7, 2), (306, .invokevirtual 450, 3), (309, .bipush 8, 2), (311, .iadd, 1), (312, .invokevirtual 328, 3), (315, .pop, 1), (316, .iload 5, 2), (318, .aload_n 0, 1), (319, .aload_n 1, 1), (320, .getfield 275, 3), (323, .aload_n 0, 1), (324, .getfield 325, 3), (327, .aload_n 0, 1), (328, .getfield 322, 3), (331, .invokevirtual 447, 3), (334, .iadd, 1), (335, .istore 5, 2), (337, .iinc 7 1, 3), (340, .goto (-57), 3), (343, .iinc 6 1, 3), (346, .goto (-138), 3), (349, .iload 5, 2), (351, .bipush 60, 2), (353, .if_icmp .le 6, 3), (356, .bipush 9, 2), (358, .ireturn, 1), (359, .iconst 0, 1), (360, .istore 6, 2), (362, .iload 6, 2), (364, .aload_n 1, 1), (365, .getfield 288, 3), (368, .if_icmp .ge 34, 3), (371, .aload_n 0, 1), (372, .aload_n 1, 1), (373, .iload 6, 2), (375, .aload_n 0, 1), (376, .getfield 347, 3), (379, .iload_n 2, 1), (380, .aaload, 1), (381, .getfield 363, 3), (384, .iconst 1, 1), (385, .iadd, 1), (386, .lload_n 3, 1), (387, .invokevirtual 453, 3), (390, .ifCond .ne 6, 3), (393, .bipush 10, 2), (395, .ireturn, 1), (396, .iinc 6 1, 3), (399, .goto (-37), 3), (402, .iconst 0, 1), (403, .ireturn, 1)]
set_option maxRecDepth 100000 in
theorem daX16_fault : dk_all cX16_fault drX16_fault = true := by decide +kernel
theorem dX16_fault_0 : decode cX16_fault 0 = .ok (.aload_n 0, 1) := dk_get daX16_fault 0 (r := (0, .aload_n 0, 1)) rfl
theorem dX16_fault_1 : decode cX16_fault 1 = .ok (.getfield 347, 3) := dk_get daX16_fault 1 (r := (1, .getfield 347, 3)) rfl
theorem dX16_fault_4 : decode cX16_fault 4 = .ok (.iload_n 2, 1) := dk_get daX16_fault 2 (r := (4, .iload_n 2, 1)) rfl
theorem dX16_fault_5 : decode cX16_fault 5 = .ok (.aaload, 1) := dk_get daX16_fault 3 (r := (5, .aaload, 1)) rfl
theorem dX16_fault_6 : decode cX16_fault 6 = .ok (.getfield 432, 3) := dk_get daX16_fault 4 (r := (6, .getfield 432, 3)) rfl
theorem dX16_fault_9 : decode cX16_fault 9 = .ok (.ifCond .eq 5, 3) := dk_get daX16_fault 5 (r := (9, .ifCond .eq 5, 3)) rfl
theorem dX16_fault_12 : decode cX16_fault 12 = .ok (.iconst 3, 1) := dk_get daX16_fault 6 (r := (12, .iconst 3, 1)) rfl
theorem dX16_fault_13 : decode cX16_fault 13 = .ok (.ireturn, 1) := dk_get daX16_fault 7 (r := (13, .ireturn, 1)) rfl
theorem dX16_fault_14 : decode cX16_fault 14 = .ok (.aload_n 0, 1) := dk_get daX16_fault 8 (r := (14, .aload_n 0, 1)) rfl
theorem dX16_fault_15 : decode cX16_fault 15 = .ok (.aload_n 1, 1) := dk_get daX16_fault 9 (r := (15, .aload_n 1, 1)) rfl
theorem dX16_fault_16 : decode cX16_fault 16 = .ok (.getfield 275, 3) := dk_get daX16_fault 10 (r := (16, .getfield 275, 3)) rfl
theorem dX16_fault_19 : decode cX16_fault 19 = .ok (.bipush 72, 2) := dk_get daX16_fault 11 (r := (19, .bipush 72, 2)) rfl
theorem dX16_fault_21 : decode cX16_fault 21 = .ok (.iconst 4, 1) := dk_get daX16_fault 12 (r := (21, .iconst 4, 1)) rfl
theorem dX16_fault_22 : decode cX16_fault 22 = .ok (.invokevirtual 267, 3) := dk_get daX16_fault 13 (r := (22, .invokevirtual 267, 3)) rfl
theorem dX16_fault_25 : decode cX16_fault 25 = .ok (.l2i, 1) := dk_get daX16_fault 14 (r := (25, .l2i, 1)) rfl
theorem dX16_fault_26 : decode cX16_fault 26 = .ok (.aload_n 0, 1) := dk_get daX16_fault 15 (r := (26, .aload_n 0, 1)) rfl
theorem dX16_fault_27 : decode cX16_fault 27 = .ok (.iload_n 2, 1) := dk_get daX16_fault 16 (r := (27, .iload_n 2, 1)) rfl
theorem dX16_fault_28 : decode cX16_fault 28 = .ok (.invokevirtual 435, 3) := dk_get daX16_fault 17 (r := (28, .invokevirtual 435, 3)) rfl
theorem dX16_fault_31 : decode cX16_fault 31 = .ok (.if_icmp .eq 5, 3) := dk_get daX16_fault 18 (r := (31, .if_icmp .eq 5, 3)) rfl
theorem dX16_fault_34 : decode cX16_fault 34 = .ok (.iconst 4, 1) := dk_get daX16_fault 19 (r := (34, .iconst 4, 1)) rfl
theorem dX16_fault_35 : decode cX16_fault 35 = .ok (.ireturn, 1) := dk_get daX16_fault 20 (r := (35, .ireturn, 1)) rfl
theorem dX16_fault_36 : decode cX16_fault 36 = .ok (.aload_n 0, 1) := dk_get daX16_fault 21 (r := (36, .aload_n 0, 1)) rfl
theorem dX16_fault_37 : decode cX16_fault 37 = .ok (.aload_n 1, 1) := dk_get daX16_fault 22 (r := (37, .aload_n 1, 1)) rfl
theorem dX16_fault_38 : decode cX16_fault 38 = .ok (.getfield 275, 3) := dk_get daX16_fault 23 (r := (38, .getfield 275, 3)) rfl
theorem dX16_fault_41 : decode cX16_fault 41 = .ok (.bipush 68, 2) := dk_get daX16_fault 24 (r := (41, .bipush 68, 2)) rfl
theorem dX16_fault_43 : decode cX16_fault 43 = .ok (.iconst 4, 1) := dk_get daX16_fault 25 (r := (43, .iconst 4, 1)) rfl
theorem dX16_fault_44 : decode cX16_fault 44 = .ok (.invokevirtual 267, 3) := dk_get daX16_fault 26 (r := (44, .invokevirtual 267, 3)) rfl
theorem dX16_fault_47 : decode cX16_fault 47 = .ok (.lstore_n 3, 1) := dk_get daX16_fault 27 (r := (47, .lstore_n 3, 1)) rfl
theorem dX16_fault_48 : decode cX16_fault 48 = .ok (.lload_n 3, 1) := dk_get daX16_fault 28 (r := (48, .lload_n 3, 1)) rfl
theorem dX16_fault_49 : decode cX16_fault 49 = .ok (.aload_n 0, 1) := dk_get daX16_fault 29 (r := (49, .aload_n 0, 1)) rfl
theorem dX16_fault_50 : decode cX16_fault 50 = .ok (.iload_n 2, 1) := dk_get daX16_fault 30 (r := (50, .iload_n 2, 1)) rfl
theorem dX16_fault_51 : decode cX16_fault 51 = .ok (.invokevirtual 438, 3) := dk_get daX16_fault 31 (r := (51, .invokevirtual 438, 3)) rfl
theorem dX16_fault_54 : decode cX16_fault 54 = .ok (.lcmp, 1) := dk_get daX16_fault 32 (r := (54, .lcmp, 1)) rfl
theorem dX16_fault_55 : decode cX16_fault 55 = .ok (.ifCond .gt 5, 3) := dk_get daX16_fault 33 (r := (55, .ifCond .gt 5, 3)) rfl
theorem dX16_fault_58 : decode cX16_fault 58 = .ok (.iconst 5, 1) := dk_get daX16_fault 34 (r := (58, .iconst 5, 1)) rfl
theorem dX16_fault_59 : decode cX16_fault 59 = .ok (.ireturn, 1) := dk_get daX16_fault 35 (r := (59, .ireturn, 1)) rfl
theorem dX16_fault_60 : decode cX16_fault 60 = .ok (.aload_n 1, 1) := dk_get daX16_fault 36 (r := (60, .aload_n 1, 1)) rfl
theorem dX16_fault_61 : decode cX16_fault 61 = .ok (.getfield 288, 3) := dk_get daX16_fault 37 (r := (61, .getfield 288, 3)) rfl
theorem dX16_fault_64 : decode cX16_fault 64 = .ok (.ifCond .ne 6, 3) := dk_get daX16_fault 38 (r := (64, .ifCond .ne 6, 3)) rfl
theorem dX16_fault_67 : decode cX16_fault 67 = .ok (.bipush 7, 2) := dk_get daX16_fault 39 (r := (67, .bipush 7, 2)) rfl
theorem dX16_fault_69 : decode cX16_fault 69 = .ok (.ireturn, 1) := dk_get daX16_fault 40 (r := (69, .ireturn, 1)) rfl
theorem dX16_fault_70 : decode cX16_fault 70 = .ok (.aload_n 0, 1) := dk_get daX16_fault 41 (r := (70, .aload_n 0, 1)) rfl
theorem dX16_fault_71 : decode cX16_fault 71 = .ok (.aload_n 1, 1) := dk_get daX16_fault 42 (r := (71, .aload_n 1, 1)) rfl
theorem dX16_fault_72 : decode cX16_fault 72 = .ok (.getfield 316, 3) := dk_get daX16_fault 43 (r := (72, .getfield 316, 3)) rfl
theorem dX16_fault_75 : decode cX16_fault 75 = .ok (.aload_n 1, 1) := dk_get daX16_fault 44 (r := (75, .aload_n 1, 1)) rfl
theorem dX16_fault_76 : decode cX16_fault 76 = .ok (.getfield 288, 3) := dk_get daX16_fault 45 (r := (76, .getfield 288, 3)) rfl
theorem dX16_fault_79 : decode cX16_fault 79 = .ok (.invokevirtual 441, 3) := dk_get daX16_fault 46 (r := (79, .invokevirtual 441, 3)) rfl
theorem dX16_fault_82 : decode cX16_fault 82 = .ok (.aload_n 0, 1) := dk_get daX16_fault 47 (r := (82, .aload_n 0, 1)) rfl
theorem dX16_fault_83 : decode cX16_fault 83 = .ok (.getfield 394, 3) := dk_get daX16_fault 48 (r := (83, .getfield 394, 3)) rfl
theorem dX16_fault_86 : decode cX16_fault 86 = .ok (.iconst 0, 1) := dk_get daX16_fault 49 (r := (86, .iconst 0, 1)) rfl
theorem dX16_fault_87 : decode cX16_fault 87 = .ok (.aload_n 1, 1) := dk_get daX16_fault 50 (r := (87, .aload_n 1, 1)) rfl
theorem dX16_fault_88 : decode cX16_fault 88 = .ok (.getfield 275, 3) := dk_get daX16_fault 51 (r := (88, .getfield 275, 3)) rfl
theorem dX16_fault_91 : decode cX16_fault 91 = .ok (.bipush 36, 2) := dk_get daX16_fault 52 (r := (91, .bipush 36, 2)) rfl
theorem dX16_fault_93 : decode cX16_fault 93 = .ok (.bipush 32, 2) := dk_get daX16_fault 53 (r := (93, .bipush 32, 2)) rfl
theorem dX16_fault_95 : decode cX16_fault 95 = .ok (.invokestatic 409, 3) := dk_get daX16_fault 54 (r := (95, .invokestatic 409, 3)) rfl
theorem dX16_fault_98 : decode cX16_fault 98 = .ok (.ifCond .ne 6, 3) := dk_get daX16_fault 55 (r := (98, .ifCond .ne 6, 3)) rfl
theorem dX16_fault_101 : decode cX16_fault 101 = .ok (.bipush 6, 2) := dk_get daX16_fault 56 (r := (101, .bipush 6, 2)) rfl
theorem dX16_fault_103 : decode cX16_fault 103 = .ok (.ireturn, 1) := dk_get daX16_fault 57 (r := (103, .ireturn, 1)) rfl
theorem dX16_fault_104 : decode cX16_fault 104 = .ok (.iconst 0, 1) := dk_get daX16_fault 58 (r := (104, .iconst 0, 1)) rfl
theorem dX16_fault_105 : decode cX16_fault 105 = .ok (.istore 5, 2) := dk_get daX16_fault 59 (r := (105, .istore 5, 2)) rfl
theorem dX16_fault_107 : decode cX16_fault 107 = .ok (.iload 5, 2) := dk_get daX16_fault 60 (r := (107, .iload 5, 2)) rfl
theorem dX16_fault_109 : decode cX16_fault 109 = .ok (.aload_n 1, 1) := dk_get daX16_fault 61 (r := (109, .aload_n 1, 1)) rfl
theorem dX16_fault_110 : decode cX16_fault 110 = .ok (.getfield 288, 3) := dk_get daX16_fault 62 (r := (110, .getfield 288, 3)) rfl
theorem dX16_fault_113 : decode cX16_fault 113 = .ok (.if_icmp .ge 54, 3) := dk_get daX16_fault 63 (r := (113, .if_icmp .ge 54, 3)) rfl
theorem dX16_fault_116 : decode cX16_fault 116 = .ok (.iconst 0, 1) := dk_get daX16_fault 64 (r := (116, .iconst 0, 1)) rfl
theorem dX16_fault_117 : decode cX16_fault 117 = .ok (.istore 6, 2) := dk_get daX16_fault 65 (r := (117, .istore 6, 2)) rfl
theorem dX16_fault_119 : decode cX16_fault 119 = .ok (.iload 6, 2) := dk_get daX16_fault 66 (r := (119, .iload 6, 2)) rfl
theorem dX16_fault_121 : decode cX16_fault 121 = .ok (.iload 5, 2) := dk_get daX16_fault 67 (r := (121, .iload 5, 2)) rfl
theorem dX16_fault_123 : decode cX16_fault 123 = .ok (.if_icmp .ge 38, 3) := dk_get daX16_fault 68 (r := (123, .if_icmp .ge 38, 3)) rfl
theorem dX16_fault_126 : decode cX16_fault 126 = .ok (.aload_n 1, 1) := dk_get daX16_fault 69 (r := (126, .aload_n 1, 1)) rfl
theorem dX16_fault_127 : decode cX16_fault 127 = .ok (.getfield 316, 3) := dk_get daX16_fault 70 (r := (127, .getfield 316, 3)) rfl
theorem dX16_fault_130 : decode cX16_fault 130 = .ok (.bipush 32, 2) := dk_get daX16_fault 71 (r := (130, .bipush 32, 2)) rfl
theorem dX16_fault_132 : decode cX16_fault 132 = .ok (.iload 5, 2) := dk_get daX16_fault 72 (r := (132, .iload 5, 2)) rfl
theorem dX16_fault_134 : decode cX16_fault 134 = .ok (.imul, 1) := dk_get daX16_fault 73 (r := (134, .imul, 1)) rfl
theorem dX16_fault_135 : decode cX16_fault 135 = .ok (.aload_n 1, 1) := dk_get daX16_fault 74 (r := (135, .aload_n 1, 1)) rfl
theorem dX16_fault_136 : decode cX16_fault 136 = .ok (.getfield 316, 3) := dk_get daX16_fault 75 (r := (136, .getfield 316, 3)) rfl
theorem dX16_fault_139 : decode cX16_fault 139 = .ok (.bipush 32, 2) := dk_get daX16_fault 76 (r := (139, .bipush 32, 2)) rfl
theorem dX16_fault_141 : decode cX16_fault 141 = .ok (.iload 6, 2) := dk_get daX16_fault 77 (r := (141, .iload 6, 2)) rfl
theorem dX16_fault_143 : decode cX16_fault 143 = .ok (.imul, 1) := dk_get daX16_fault 78 (r := (143, .imul, 1)) rfl
theorem dX16_fault_144 : decode cX16_fault 144 = .ok (.bipush 32, 2) := dk_get daX16_fault 79 (r := (144, .bipush 32, 2)) rfl
theorem dX16_fault_146 : decode cX16_fault 146 = .ok (.invokestatic 409, 3) := dk_get daX16_fault 80 (r := (146, .invokestatic 409, 3)) rfl
theorem dX16_fault_149 : decode cX16_fault 149 = .ok (.ifCond .eq 6, 3) := dk_get daX16_fault 81 (r := (149, .ifCond .eq 6, 3)) rfl
theorem dX16_fault_152 : decode cX16_fault 152 = .ok (.bipush 6, 2) := dk_get daX16_fault 82 (r := (152, .bipush 6, 2)) rfl
theorem dX16_fault_154 : decode cX16_fault 154 = .ok (.ireturn, 1) := dk_get daX16_fault 83 (r := (154, .ireturn, 1)) rfl
theorem dX16_fault_155 : decode cX16_fault 155 = .ok (.iinc 6 1, 3) := dk_get daX16_fault 84 (r := (155, .iinc 6 1, 3)) rfl
theorem dX16_fault_158 : decode cX16_fault 158 = .ok (.goto (-39), 3) := dk_get daX16_fault 85 (r := (158, .goto (-39), 3)) rfl
theorem dX16_fault_161 : decode cX16_fault 161 = .ok (.iinc 5 1, 3) := dk_get daX16_fault 86 (r := (161, .iinc 5 1, 3)) rfl
theorem dX16_fault_164 : decode cX16_fault 164 = .ok (.goto (-57), 3) := dk_get daX16_fault 87 (r := (164, .goto (-57), 3)) rfl
theorem dX16_fault_167 : decode cX16_fault 167 = .ok (.iconst 0, 1) := dk_get daX16_fault 88 (r := (167, .iconst 0, 1)) rfl
theorem dX16_fault_168 : decode cX16_fault 168 = .ok (.istore 5, 2) := dk_get daX16_fault 89 (r := (168, .istore 5, 2)) rfl
theorem dX16_fault_170 : decode cX16_fault 170 = .ok (.iload 5, 2) := dk_get daX16_fault 90 (r := (170, .iload 5, 2)) rfl
theorem dX16_fault_172 : decode cX16_fault 172 = .ok (.aload_n 1, 1) := dk_get daX16_fault 91 (r := (172, .aload_n 1, 1)) rfl
theorem dX16_fault_173 : decode cX16_fault 173 = .ok (.getfield 288, 3) := dk_get daX16_fault 92 (r := (173, .getfield 288, 3)) rfl
theorem dX16_fault_176 : decode cX16_fault 176 = .ok (.if_icmp .ge 26, 3) := dk_get daX16_fault 93 (r := (176, .if_icmp .ge 26, 3)) rfl
theorem dX16_fault_179 : decode cX16_fault 179 = .ok (.aload_n 0, 1) := dk_get daX16_fault 94 (r := (179, .aload_n 0, 1)) rfl
theorem dX16_fault_180 : decode cX16_fault 180 = .ok (.aload_n 1, 1) := dk_get daX16_fault 95 (r := (180, .aload_n 1, 1)) rfl
theorem dX16_fault_181 : decode cX16_fault 181 = .ok (.iload 5, 2) := dk_get daX16_fault 96 (r := (181, .iload 5, 2)) rfl
theorem dX16_fault_183 : decode cX16_fault 183 = .ok (.invokevirtual 443, 3) := dk_get daX16_fault 97 (r := (183, .invokevirtual 443, 3)) rfl
theorem dX16_fault_186 : decode cX16_fault 186 = .ok (.istore 6, 2) := dk_get daX16_fault 98 (r := (186, .istore 6, 2)) rfl
theorem dX16_fault_188 : decode cX16_fault 188 = .ok (.iload 6, 2) := dk_get daX16_fault 99 (r := (188, .iload 6, 2)) rfl
theorem dX16_fault_190 : decode cX16_fault 190 = .ok (.ifCond .eq 6, 3) := dk_get daX16_fault 100 (r := (190, .ifCond .eq 6, 3)) rfl
theorem dX16_fault_193 : decode cX16_fault 193 = .ok (.iload 6, 2) := dk_get daX16_fault 101 (r := (193, .iload 6, 2)) rfl
theorem dX16_fault_195 : decode cX16_fault 195 = .ok (.ireturn, 1) := dk_get daX16_fault 102 (r := (195, .ireturn, 1)) rfl
theorem dX16_fault_196 : decode cX16_fault 196 = .ok (.iinc 5 1, 3) := dk_get daX16_fault 103 (r := (196, .iinc 5 1, 3)) rfl
theorem dX16_fault_199 : decode cX16_fault 199 = .ok (.goto (-29), 3) := dk_get daX16_fault 104 (r := (199, .goto (-29), 3)) rfl
theorem dX16_fault_202 : decode cX16_fault 202 = .ok (.iconst 0, 1) := dk_get daX16_fault 105 (r := (202, .iconst 0, 1)) rfl
theorem dX16_fault_203 : decode cX16_fault 203 = .ok (.istore 5, 2) := dk_get daX16_fault 106 (r := (203, .istore 5, 2)) rfl
theorem dX16_fault_205 : decode cX16_fault 205 = .ok (.iconst 0, 1) := dk_get daX16_fault 107 (r := (205, .iconst 0, 1)) rfl
theorem dX16_fault_206 : decode cX16_fault 206 = .ok (.istore 6, 2) := dk_get daX16_fault 108 (r := (206, .istore 6, 2)) rfl
theorem dX16_fault_208 : decode cX16_fault 208 = .ok (.iload 6, 2) := dk_get daX16_fault 109 (r := (208, .iload 6, 2)) rfl
theorem dX16_fault_210 : decode cX16_fault 210 = .ok (.aload_n 1, 1) := dk_get daX16_fault 110 (r := (210, .aload_n 1, 1)) rfl
theorem dX16_fault_211 : decode cX16_fault 211 = .ok (.getfield 288, 3) := dk_get daX16_fault 111 (r := (211, .getfield 288, 3)) rfl
theorem dX16_fault_214 : decode cX16_fault 214 = .ok (.if_icmp .ge 135, 3) := dk_get daX16_fault 112 (r := (214, .if_icmp .ge 135, 3)) rfl
theorem dX16_fault_217 : decode cX16_fault 217 = .ok (.iconst 0, 1) := dk_get daX16_fault 113 (r := (217, .iconst 0, 1)) rfl
theorem dX16_fault_218 : decode cX16_fault 218 = .ok (.istore 7, 2) := dk_get daX16_fault 114 (r := (218, .istore 7, 2)) rfl
theorem dX16_fault_220 : decode cX16_fault 220 = .ok (.iload 7, 2) := dk_get daX16_fault 115 (r := (220, .iload 7, 2)) rfl
theorem dX16_fault_222 : decode cX16_fault 222 = .ok (.aload_n 1, 1) := dk_get daX16_fault 116 (r := (222, .aload_n 1, 1)) rfl
theorem dX16_fault_223 : decode cX16_fault 223 = .ok (.getfield 297, 3) := dk_get daX16_fault 117 (r := (223, .getfield 297, 3)) rfl
theorem dX16_fault_226 : decode cX16_fault 226 = .ok (.iload 6, 2) := dk_get daX16_fault 118 (r := (226, .iload 6, 2)) rfl
theorem dX16_fault_228 : decode cX16_fault 228 = .ok (.iaload, 1) := dk_get daX16_fault 119 (r := (228, .iaload, 1)) rfl
theorem dX16_fault_229 : decode cX16_fault 229 = .ok (.if_icmp .ge 51, 3) := dk_get daX16_fault 120 (r := (229, .if_icmp .ge 51, 3)) rfl
theorem dX16_fault_232 : decode cX16_fault 232 = .ok (.aload_n 0, 1) := dk_get daX16_fault 121 (r := (232, .aload_n 0, 1)) rfl
theorem dX16_fault_233 : decode cX16_fault 233 = .ok (.aload_n 1, 1) := dk_get daX16_fault 122 (r := (233, .aload_n 1, 1)) rfl
theorem dX16_fault_234 : decode cX16_fault 234 = .ok (.getfield 275, 3) := dk_get daX16_fault 123 (r := (234, .getfield 275, 3)) rfl
theorem dX16_fault_237 : decode cX16_fault 237 = .ok (.aload_n 0, 1) := dk_get daX16_fault 124 (r := (237, .aload_n 0, 1)) rfl
theorem dX16_fault_238 : decode cX16_fault 238 = .ok (.aload_n 1, 1) := dk_get daX16_fault 125 (r := (238, .aload_n 1, 1)) rfl
theorem dX16_fault_239 : decode cX16_fault 239 = .ok (.iload 6, 2) := dk_get daX16_fault 126 (r := (239, .iload 6, 2)) rfl
theorem dX16_fault_241 : decode cX16_fault 241 = .ok (.iload 7, 2) := dk_get daX16_fault 127 (r := (241, .iload 7, 2)) rfl
theorem dX16_fault_243 : decode cX16_fault 243 = .ok (.invokevirtual 419, 3) := dk_get daX16_fault 128 (r := (243, .invokevirtual 419, 3)) rfl
theorem dX16_fault_246 : decode cX16_fault 246 = .ok (.bipush 36, 2) := dk_get daX16_fault 129 (r := (246, .bipush 36, 2)) rfl
theorem dX16_fault_248 : decode cX16_fault 248 = .ok (.iadd, 1) := dk_get daX16_fault 130 (r := (248, .iadd, 1)) rfl
theorem dX16_fault_249 : decode cX16_fault 249 = .ok (.invokevirtual 328, 3) := dk_get daX16_fault 131 (r := (249, .invokevirtual 328, 3)) rfl
theorem dX16_fault_252 : decode cX16_fault 252 = .ok (.pop, 1) := dk_get daX16_fault 132 (r := (252, .pop, 1)) rfl
theorem dX16_fault_253 : decode cX16_fault 253 = .ok (.iload 5, 2) := dk_get daX16_fault 133 (r := (253, .iload 5, 2)) rfl
theorem dX16_fault_255 : decode cX16_fault 255 = .ok (.aload_n 0, 1) := dk_get daX16_fault 134 (r := (255, .aload_n 0, 1)) rfl
theorem dX16_fault_256 : decode cX16_fault 256 = .ok (.aload_n 1, 1) := dk_get daX16_fault 135 (r := (256, .aload_n 1, 1)) rfl
theorem dX16_fault_257 : decode cX16_fault 257 = .ok (.getfield 275, 3) := dk_get daX16_fault 136 (r := (257, .getfield 275, 3)) rfl
theorem dX16_fault_260 : decode cX16_fault 260 = .ok (.aload_n 0, 1) := dk_get daX16_fault 137 (r := (260, .aload_n 0, 1)) rfl
theorem dX16_fault_261 : decode cX16_fault 261 = .ok (.getfield 325, 3) := dk_get daX16_fault 138 (r := (261, .getfield 325, 3)) rfl
theorem dX16_fault_264 : decode cX16_fault 264 = .ok (.aload_n 0, 1) := dk_get daX16_fault 139 (r := (264, .aload_n 0, 1)) rfl
theorem dX16_fault_265 : decode cX16_fault 265 = .ok (.getfield 322, 3) := dk_get daX16_fault 140 (r := (265, .getfield 322, 3)) rfl
theorem dX16_fault_268 : decode cX16_fault 268 = .ok (.invokevirtual 447, 3) := dk_get daX16_fault 141 (r := (268, .invokevirtual 447, 3)) rfl
theorem dX16_fault_271 : decode cX16_fault 271 = .ok (.iadd, 1) := dk_get daX16_fault 142 (r := (271, .iadd, 1)) rfl
theorem dX16_fault_272 : decode cX16_fault 272 = .ok (.istore 5, 2) := dk_get daX16_fault 143 (r := (272, .istore 5, 2)) rfl
theorem dX16_fault_274 : decode cX16_fault 274 = .ok (.iinc 7 1, 3) := dk_get daX16_fault 144 (r := (274, .iinc 7 1, 3)) rfl
theorem dX16_fault_277 : decode cX16_fault 277 = .ok (.goto (-57), 3) := dk_get daX16_fault 145 (r := (277, .goto (-57), 3)) rfl
theorem dX16_fault_280 : decode cX16_fault 280 = .ok (.iconst 0, 1) := dk_get daX16_fault 146 (r := (280, .iconst 0, 1)) rfl
theorem dX16_fault_281 : decode cX16_fault 281 = .ok (.istore 7, 2) := dk_get daX16_fault 147 (r := (281, .istore 7, 2)) rfl
theorem dX16_fault_283 : decode cX16_fault 283 = .ok (.iload 7, 2) := dk_get daX16_fault 148 (r := (283, .iload 7, 2)) rfl
theorem dX16_fault_285 : decode cX16_fault 285 = .ok (.aload_n 1, 1) := dk_get daX16_fault 149 (r := (285, .aload_n 1, 1)) rfl
theorem dX16_fault_286 : decode cX16_fault 286 = .ok (.getfield 307, 3) := dk_get daX16_fault 150 (r := (286, .getfield 307, 3)) rfl
theorem dX16_fault_289 : decode cX16_fault 289 = .ok (.iload 6, 2) := dk_get daX16_fault 151 (r := (289, .iload 6, 2)) rfl
theorem dX16_fault_291 : decode cX16_fault 291 = .ok (.iaload, 1) := dk_get daX16_fault 152 (r := (291, .iaload, 1)) rfl
theorem dX16_fault_292 : decode cX16_fault 292 = .ok (.if_icmp .ge 51, 3) := dk_get daX16_fault 153 (r := (292, .if_icmp .ge 51, 3)) rfl
theorem dX16_fault_295 : decode cX16_fault 295 = .ok (.aload_n 0, 1) := dk_get daX16_fault 154 (r := (295, .aload_n 0, 1)) rfl
theorem dX16_fault_296 : decode cX16_fault 296 = .ok (.aload_n 1, 1) := dk_get daX16_fault 155 (r := (296, .aload_n 1, 1)) rfl
theorem dX16_fault_297 : decode cX16_fault 297 = .ok (.getfield 275, 3) := dk_get daX16_fault 156 (r := (297, .getfield 275, 3)) rfl
theorem dX16_fault_300 : decode cX16_fault 300 = .ok (.aload_n 0, 1) := dk_get daX16_fault 157 (r := (300, .aload_n 0, 1)) rfl
theorem dX16_fault_301 : decode cX16_fault 301 = .ok (.aload_n 1, 1) := dk_get daX16_fault 158 (r := (301, .aload_n 1, 1)) rfl
theorem dX16_fault_302 : decode cX16_fault 302 = .ok (.iload 6, 2) := dk_get daX16_fault 159 (r := (302, .iload 6, 2)) rfl
theorem dX16_fault_304 : decode cX16_fault 304 = .ok (.iload 7, 2) := dk_get daX16_fault 160 (r := (304, .iload 7, 2)) rfl
theorem dX16_fault_306 : decode cX16_fault 306 = .ok (.invokevirtual 450, 3) := dk_get daX16_fault 161 (r := (306, .invokevirtual 450, 3)) rfl
theorem dX16_fault_309 : decode cX16_fault 309 = .ok (.bipush 8, 2) := dk_get daX16_fault 162 (r := (309, .bipush 8, 2)) rfl
theorem dX16_fault_311 : decode cX16_fault 311 = .ok (.iadd, 1) := dk_get daX16_fault 163 (r := (311, .iadd, 1)) rfl
theorem dX16_fault_312 : decode cX16_fault 312 = .ok (.invokevirtual 328, 3) := dk_get daX16_fault 164 (r := (312, .invokevirtual 328, 3)) rfl
theorem dX16_fault_315 : decode cX16_fault 315 = .ok (.pop, 1) := dk_get daX16_fault 165 (r := (315, .pop, 1)) rfl
theorem dX16_fault_316 : decode cX16_fault 316 = .ok (.iload 5, 2) := dk_get daX16_fault 166 (r := (316, .iload 5, 2)) rfl
theorem dX16_fault_318 : decode cX16_fault 318 = .ok (.aload_n 0, 1) := dk_get daX16_fault 167 (r := (318, .aload_n 0, 1)) rfl
theorem dX16_fault_319 : decode cX16_fault 319 = .ok (.aload_n 1, 1) := dk_get daX16_fault 168 (r := (319, .aload_n 1, 1)) rfl
theorem dX16_fault_320 : decode cX16_fault 320 = .ok (.getfield 275, 3) := dk_get daX16_fault 169 (r := (320, .getfield 275, 3)) rfl
theorem dX16_fault_323 : decode cX16_fault 323 = .ok (.aload_n 0, 1) := dk_get daX16_fault 170 (r := (323, .aload_n 0, 1)) rfl
theorem dX16_fault_324 : decode cX16_fault 324 = .ok (.getfield 325, 3) := dk_get daX16_fault 171 (r := (324, .getfield 325, 3)) rfl
theorem dX16_fault_327 : decode cX16_fault 327 = .ok (.aload_n 0, 1) := dk_get daX16_fault 172 (r := (327, .aload_n 0, 1)) rfl
theorem dX16_fault_328 : decode cX16_fault 328 = .ok (.getfield 322, 3) := dk_get daX16_fault 173 (r := (328, .getfield 322, 3)) rfl
theorem dX16_fault_331 : decode cX16_fault 331 = .ok (.invokevirtual 447, 3) := dk_get daX16_fault 174 (r := (331, .invokevirtual 447, 3)) rfl
theorem dX16_fault_334 : decode cX16_fault 334 = .ok (.iadd, 1) := dk_get daX16_fault 175 (r := (334, .iadd, 1)) rfl
theorem dX16_fault_335 : decode cX16_fault 335 = .ok (.istore 5, 2) := dk_get daX16_fault 176 (r := (335, .istore 5, 2)) rfl
theorem dX16_fault_337 : decode cX16_fault 337 = .ok (.iinc 7 1, 3) := dk_get daX16_fault 177 (r := (337, .iinc 7 1, 3)) rfl
theorem dX16_fault_340 : decode cX16_fault 340 = .ok (.goto (-57), 3) := dk_get daX16_fault 178 (r := (340, .goto (-57), 3)) rfl
theorem dX16_fault_343 : decode cX16_fault 343 = .ok (.iinc 6 1, 3) := dk_get daX16_fault 179 (r := (343, .iinc 6 1, 3)) rfl
theorem dX16_fault_346 : decode cX16_fault 346 = .ok (.goto (-138), 3) := dk_get daX16_fault 180 (r := (346, .goto (-138), 3)) rfl
theorem dX16_fault_349 : decode cX16_fault 349 = .ok (.iload 5, 2) := dk_get daX16_fault 181 (r := (349, .iload 5, 2)) rfl
theorem dX16_fault_351 : decode cX16_fault 351 = .ok (.bipush 60, 2) := dk_get daX16_fault 182 (r := (351, .bipush 60, 2)) rfl
theorem dX16_fault_353 : decode cX16_fault 353 = .ok (.if_icmp .le 6, 3) := dk_get daX16_fault 183 (r := (353, .if_icmp .le 6, 3)) rfl
theorem dX16_fault_356 : decode cX16_fault 356 = .ok (.bipush 9, 2) := dk_get daX16_fault 184 (r := (356, .bipush 9, 2)) rfl
theorem dX16_fault_358 : decode cX16_fault 358 = .ok (.ireturn, 1) := dk_get daX16_fault 185 (r := (358, .ireturn, 1)) rfl
theorem dX16_fault_359 : decode cX16_fault 359 = .ok (.iconst 0, 1) := dk_get daX16_fault 186 (r := (359, .iconst 0, 1)) rfl
theorem dX16_fault_360 : decode cX16_fault 360 = .ok (.istore 6, 2) := dk_get daX16_fault 187 (r := (360, .istore 6, 2)) rfl
theorem dX16_fault_362 : decode cX16_fault 362 = .ok (.iload 6, 2) := dk_get daX16_fault 188 (r := (362, .iload 6, 2)) rfl
theorem dX16_fault_364 : decode cX16_fault 364 = .ok (.aload_n 1, 1) := dk_get daX16_fault 189 (r := (364, .aload_n 1, 1)) rfl
theorem dX16_fault_365 : decode cX16_fault 365 = .ok (.getfield 288, 3) := dk_get daX16_fault 190 (r := (365, .getfield 288, 3)) rfl
theorem dX16_fault_368 : decode cX16_fault 368 = .ok (.if_icmp .ge 34, 3) := dk_get daX16_fault 191 (r := (368, .if_icmp .ge 34, 3)) rfl
theorem dX16_fault_371 : decode cX16_fault 371 = .ok (.aload_n 0, 1) := dk_get daX16_fault 192 (r := (371, .aload_n 0, 1)) rfl
theorem dX16_fault_372 : decode cX16_fault 372 = .ok (.aload_n 1, 1) := dk_get daX16_fault 193 (r := (372, .aload_n 1, 1)) rfl
theorem dX16_fault_373 : decode cX16_fault 373 = .ok (.iload 6, 2) := dk_get daX16_fault 194 (r := (373, .iload 6, 2)) rfl
theorem dX16_fault_375 : decode cX16_fault 375 = .ok (.aload_n 0, 1) := dk_get daX16_fault 195 (r := (375, .aload_n 0, 1)) rfl
theorem dX16_fault_376 : decode cX16_fault 376 = .ok (.getfield 347, 3) := dk_get daX16_fault 196 (r := (376, .getfield 347, 3)) rfl
theorem dX16_fault_379 : decode cX16_fault 379 = .ok (.iload_n 2, 1) := dk_get daX16_fault 197 (r := (379, .iload_n 2, 1)) rfl
theorem dX16_fault_380 : decode cX16_fault 380 = .ok (.aaload, 1) := dk_get daX16_fault 198 (r := (380, .aaload, 1)) rfl
theorem dX16_fault_381 : decode cX16_fault 381 = .ok (.getfield 363, 3) := dk_get daX16_fault 199 (r := (381, .getfield 363, 3)) rfl
theorem dX16_fault_384 : decode cX16_fault 384 = .ok (.iconst 1, 1) := dk_get daX16_fault 200 (r := (384, .iconst 1, 1)) rfl
theorem dX16_fault_385 : decode cX16_fault 385 = .ok (.iadd, 1) := dk_get daX16_fault 201 (r := (385, .iadd, 1)) rfl
theorem dX16_fault_386 : decode cX16_fault 386 = .ok (.lload_n 3, 1) := dk_get daX16_fault 202 (r := (386, .lload_n 3, 1)) rfl
theorem dX16_fault_387 : decode cX16_fault 387 = .ok (.invokevirtual 453, 3) := dk_get daX16_fault 203 (r := (387, .invokevirtual 453, 3)) rfl
theorem dX16_fault_390 : decode cX16_fault 390 = .ok (.ifCond .ne 6, 3) := dk_get daX16_fault 204 (r := (390, .ifCond .ne 6, 3)) rfl
theorem dX16_fault_393 : decode cX16_fault 393 = .ok (.bipush 10, 2) := dk_get daX16_fault 205 (r := (393, .bipush 10, 2)) rfl
theorem dX16_fault_395 : decode cX16_fault 395 = .ok (.ireturn, 1) := dk_get daX16_fault 206 (r := (395, .ireturn, 1)) rfl
theorem dX16_fault_396 : decode cX16_fault 396 = .ok (.iinc 6 1, 3) := dk_get daX16_fault 207 (r := (396, .iinc 6 1, 3)) rfl
theorem dX16_fault_399 : decode cX16_fault 399 = .ok (.goto (-37), 3) := dk_get daX16_fault 208 (r := (399, .goto (-37), 3)) rfl
theorem dX16_fault_402 : decode cX16_fault 402 = .ok (.iconst 0, 1) := dk_get daX16_fault 209 (r := (402, .iconst 0, 1)) rfl
theorem dX16_fault_403 : decode cX16_fault 403 = .ok (.ireturn, 1) := dk_get daX16_fault 210 (r := (403, .ireturn, 1)) rfl
abbrev mX16_findCoin : ks_M := (RX16, cX16_findCoin, 9, (some .int), "findCoin")
def drX16_findCoin : List (Nat × Instr × Nat) := [(0, .iconst 0, 1), (1, .istore 7, 2), (3, .iload 7, 2), (5, .iload 6, 2), (7, .if_icmp .ge 70, 3), (10, .aload 5, 2), (12, .iload 7, 2), (14, .iaload, 1), (15, .istore 8, 2), (17, .iload 8, 2), (19, .sipush 255, 3), (22, .iand, 1), (23, .i2l, 1), (24, .lload_n 3, 1), (25, .lcmp, 1), (26, .ifCond .ne 45, 3), (29, .aload_n 0, 1), (30, .getfield 347, 3), (33, .iload 8, 2), (35, .sipush 3072, 3), (38, .idiv, 1), (39, .aaload, 1), (40, .getfield 457, 3), (43, .getfield 316, 3), (46, .bipush 32, 2), (48, .iload 8, 2), (50, .sipush 256, 3), (53, .idiv, 1), (54, .bipush 12, 2), (56, .irem, 1), (57, .imul, 1), (58, .aload_n 1, 1), (59, .iload_n 2, 1), (60, .bipush 32, 2), (62, .invokestatic 409, 3), (65, .ifCond .eq 6, 3), (68, .iload 7, 2), (70, .ireturn, 1), (71, .iinc 7 1, 3), (74, .goto (-71), 3), (77, .iconst (-1), 1), (78, .ireturn, 1)]
set_option maxRecDepth 100000 in
theorem daX16_findCoin : dk_all cX16_findCoin drX16_findCoin = true := by decide +kernel
theorem dX16_findCoin_0 : decode cX16_findCoin 0 = .ok (.iconst 0, 1) := dk_get daX16_findCoin 0 (r := (0, .iconst 0, 1)) rfl
theorem dX16_findCoin_1 : decode cX16_findCoin 1 = .ok (.istore 7, 2) := dk_get daX16_findCoin 1 (r := (1, .istore 7, 2)) rfl
theorem dX16_findCoin_3 : decode cX16_findCoin 3 = .ok (.iload 7, 2) := dk_get daX16_findCoin 2 (r := (3, .iload 7, 2)) rfl
theorem dX16_findCoin_5 : decode cX16_findCoin 5 = .ok (.iload 6, 2) := dk_get daX16_findCoin 3 (r := (5, .iload 6, 2)) rfl
theorem dX16_findCoin_7 : decode cX16_findCoin 7 = .ok (.if_icmp .ge 70, 3) := dk_get daX16_findCoin 4 (r := (7, .if_icmp .ge 70, 3)) rfl
theorem dX16_findCoin_10 : decode cX16_findCoin 10 = .ok (.aload 5, 2) := dk_get daX16_findCoin 5 (r := (10, .aload 5, 2)) rfl
theorem dX16_findCoin_12 : decode cX16_findCoin 12 = .ok (.iload 7, 2) := dk_get daX16_findCoin 6 (r := (12, .iload 7, 2)) rfl
theorem dX16_findCoin_14 : decode cX16_findCoin 14 = .ok (.iaload, 1) := dk_get daX16_findCoin 7 (r := (14, .iaload, 1)) rfl
theorem dX16_findCoin_15 : decode cX16_findCoin 15 = .ok (.istore 8, 2) := dk_get daX16_findCoin 8 (r := (15, .istore 8, 2)) rfl
theorem dX16_findCoin_17 : decode cX16_findCoin 17 = .ok (.iload 8, 2) := dk_get daX16_findCoin 9 (r := (17, .iload 8, 2)) rfl
theorem dX16_findCoin_19 : decode cX16_findCoin 19 = .ok (.sipush 255, 3) := dk_get daX16_findCoin 10 (r := (19, .sipush 255, 3)) rfl
theorem dX16_findCoin_22 : decode cX16_findCoin 22 = .ok (.iand, 1) := dk_get daX16_findCoin 11 (r := (22, .iand, 1)) rfl
theorem dX16_findCoin_23 : decode cX16_findCoin 23 = .ok (.i2l, 1) := dk_get daX16_findCoin 12 (r := (23, .i2l, 1)) rfl
theorem dX16_findCoin_24 : decode cX16_findCoin 24 = .ok (.lload_n 3, 1) := dk_get daX16_findCoin 13 (r := (24, .lload_n 3, 1)) rfl
theorem dX16_findCoin_25 : decode cX16_findCoin 25 = .ok (.lcmp, 1) := dk_get daX16_findCoin 14 (r := (25, .lcmp, 1)) rfl
theorem dX16_findCoin_26 : decode cX16_findCoin 26 = .ok (.ifCond .ne 45, 3) := dk_get daX16_findCoin 15 (r := (26, .ifCond .ne 45, 3)) rfl
theorem dX16_findCoin_29 : decode cX16_findCoin 29 = .ok (.aload_n 0, 1) := dk_get daX16_findCoin 16 (r := (29, .aload_n 0, 1)) rfl
theorem dX16_findCoin_30 : decode cX16_findCoin 30 = .ok (.getfield 347, 3) := dk_get daX16_findCoin 17 (r := (30, .getfield 347, 3)) rfl
theorem dX16_findCoin_33 : decode cX16_findCoin 33 = .ok (.iload 8, 2) := dk_get daX16_findCoin 18 (r := (33, .iload 8, 2)) rfl
theorem dX16_findCoin_35 : decode cX16_findCoin 35 = .ok (.sipush 3072, 3) := dk_get daX16_findCoin 19 (r := (35, .sipush 3072, 3)) rfl
theorem dX16_findCoin_38 : decode cX16_findCoin 38 = .ok (.idiv, 1) := dk_get daX16_findCoin 20 (r := (38, .idiv, 1)) rfl
theorem dX16_findCoin_39 : decode cX16_findCoin 39 = .ok (.aaload, 1) := dk_get daX16_findCoin 21 (r := (39, .aaload, 1)) rfl
theorem dX16_findCoin_40 : decode cX16_findCoin 40 = .ok (.getfield 457, 3) := dk_get daX16_findCoin 22 (r := (40, .getfield 457, 3)) rfl
theorem dX16_findCoin_43 : decode cX16_findCoin 43 = .ok (.getfield 316, 3) := dk_get daX16_findCoin 23 (r := (43, .getfield 316, 3)) rfl
theorem dX16_findCoin_46 : decode cX16_findCoin 46 = .ok (.bipush 32, 2) := dk_get daX16_findCoin 24 (r := (46, .bipush 32, 2)) rfl
theorem dX16_findCoin_48 : decode cX16_findCoin 48 = .ok (.iload 8, 2) := dk_get daX16_findCoin 25 (r := (48, .iload 8, 2)) rfl
theorem dX16_findCoin_50 : decode cX16_findCoin 50 = .ok (.sipush 256, 3) := dk_get daX16_findCoin 26 (r := (50, .sipush 256, 3)) rfl
theorem dX16_findCoin_53 : decode cX16_findCoin 53 = .ok (.idiv, 1) := dk_get daX16_findCoin 27 (r := (53, .idiv, 1)) rfl
theorem dX16_findCoin_54 : decode cX16_findCoin 54 = .ok (.bipush 12, 2) := dk_get daX16_findCoin 28 (r := (54, .bipush 12, 2)) rfl
theorem dX16_findCoin_56 : decode cX16_findCoin 56 = .ok (.irem, 1) := dk_get daX16_findCoin 29 (r := (56, .irem, 1)) rfl
theorem dX16_findCoin_57 : decode cX16_findCoin 57 = .ok (.imul, 1) := dk_get daX16_findCoin 30 (r := (57, .imul, 1)) rfl
theorem dX16_findCoin_58 : decode cX16_findCoin 58 = .ok (.aload_n 1, 1) := dk_get daX16_findCoin 31 (r := (58, .aload_n 1, 1)) rfl
theorem dX16_findCoin_59 : decode cX16_findCoin 59 = .ok (.iload_n 2, 1) := dk_get daX16_findCoin 32 (r := (59, .iload_n 2, 1)) rfl
theorem dX16_findCoin_60 : decode cX16_findCoin 60 = .ok (.bipush 32, 2) := dk_get daX16_findCoin 33 (r := (60, .bipush 32, 2)) rfl
theorem dX16_findCoin_62 : decode cX16_findCoin 62 = .ok (.invokestatic 409, 3) := dk_get daX16_findCoin 34 (r := (62, .invokestatic 409, 3)) rfl
theorem dX16_findCoin_65 : decode cX16_findCoin 65 = .ok (.ifCond .eq 6, 3) := dk_get daX16_findCoin 35 (r := (65, .ifCond .eq 6, 3)) rfl
theorem dX16_findCoin_68 : decode cX16_findCoin 68 = .ok (.iload 7, 2) := dk_get daX16_findCoin 36 (r := (68, .iload 7, 2)) rfl
theorem dX16_findCoin_70 : decode cX16_findCoin 70 = .ok (.ireturn, 1) := dk_get daX16_findCoin 37 (r := (70, .ireturn, 1)) rfl
theorem dX16_findCoin_71 : decode cX16_findCoin 71 = .ok (.iinc 7 1, 3) := dk_get daX16_findCoin 38 (r := (71, .iinc 7 1, 3)) rfl
theorem dX16_findCoin_74 : decode cX16_findCoin 74 = .ok (.goto (-71), 3) := dk_get daX16_findCoin 39 (r := (74, .goto (-71), 3)) rfl
theorem dX16_findCoin_77 : decode cX16_findCoin 77 = .ok (.iconst (-1), 1) := dk_get daX16_findCoin 40 (r := (77, .iconst (-1), 1)) rfl
theorem dX16_findCoin_78 : decode cX16_findCoin 78 = .ok (.ireturn, 1) := dk_get daX16_findCoin 41 (r := (78, .ireturn, 1)) rfl
abbrev mX16_valueOf : ks_M := (RX16, cX16_valueOf, 3, (some .long), "valueOf")
def drX16_valueOf : List (Nat × Instr × Nat) := [(0, .aload_n 0, 1), (1, .getfield 347, 3), (4, .iload_n 1, 1), (5, .sipush 3072, 3), (8, .idiv, 1), (9, .aaload, 1), (10, .getfield 457, 3), (13, .astore_n 2, 1), (14, .aload_n 0, 1), (15, .aload_n 2, 1), (16, .getfield 275, 3), (19, .aload_n 0, 1), (20, .aload_n 2, 1), (21, .iload_n 1, 1), (22, .sipush 256, 3), (25, .idiv, 1), (26, .bipush 12, 2), (28, .irem, 1), (29, .iload_n 1, 1), (30, .sipush 255, 3), (33, .iand, 1), (34, .invokevirtual 450, 3), (37, .bipush 8, 2), (39, .invokevirtual 267, 3), (42, .lreturn, 1)]
set_option maxRecDepth 100000 in
theorem daX16_valueOf : dk_all cX16_valueOf drX16_valueOf = true := by decide +kernel
theorem dX16_valueOf_0 : decode cX16_valueOf 0 = .ok (.aload_n 0, 1) := dk_get daX16_valueOf 0 (r := (0, .aload_n 0, 1)) rfl
theorem dX16_valueOf_1 : decode cX16_valueOf 1 = .ok (.getfield 347, 3) := dk_get daX16_valueOf 1 (r := (1, .getfield 347, 3)) rfl
theorem dX16_valueOf_4 : decode cX16_valueOf 4 = .ok (.iload_n 1, 1) := dk_get daX16_valueOf 2 (r := (4, .iload_n 1, 1)) rfl
theorem dX16_valueOf_5 : decode cX16_valueOf 5 = .ok (.sipush 3072, 3) := dk_get daX16_valueOf 3 (r := (5, .sipush 3072, 3)) rfl
theorem dX16_valueOf_8 : decode cX16_valueOf 8 = .ok (.idiv, 1) := dk_get daX16_valueOf 4 (r := (8, .idiv, 1)) rfl
theorem dX16_valueOf_9 : decode cX16_valueOf 9 = .ok (.aaload, 1) := dk_get daX16_valueOf 5 (r := (9, .aaload, 1)) rfl
theorem dX16_valueOf_10 : decode cX16_valueOf 10 = .ok (.getfield 457, 3) := dk_get daX16_valueOf 6 (r := (10, .getfield 457, 3)) rfl
theorem dX16_valueOf_13 : decode cX16_valueOf 13 = .ok (.astore_n 2, 1) := dk_get daX16_valueOf 7 (r := (13, .astore_n 2, 1)) rfl
theorem dX16_valueOf_14 : decode cX16_valueOf 14 = .ok (.aload_n 0, 1) := dk_get daX16_valueOf 8 (r := (14, .aload_n 0, 1)) rfl
theorem dX16_valueOf_15 : decode cX16_valueOf 15 = .ok (.aload_n 2, 1) := dk_get daX16_valueOf 9 (r := (15, .aload_n 2, 1)) rfl
theorem dX16_valueOf_16 : decode cX16_valueOf 16 = .ok (.getfield 275, 3) := dk_get daX16_valueOf 10 (r := (16, .getfield 275, 3)) rfl
theorem dX16_valueOf_19 : decode cX16_valueOf 19 = .ok (.aload_n 0, 1) := dk_get daX16_valueOf 11 (r := (19, .aload_n 0, 1)) rfl
theorem dX16_valueOf_20 : decode cX16_valueOf 20 = .ok (.aload_n 2, 1) := dk_get daX16_valueOf 12 (r := (20, .aload_n 2, 1)) rfl
theorem dX16_valueOf_21 : decode cX16_valueOf 21 = .ok (.iload_n 1, 1) := dk_get daX16_valueOf 13 (r := (21, .iload_n 1, 1)) rfl
theorem dX16_valueOf_22 : decode cX16_valueOf 22 = .ok (.sipush 256, 3) := dk_get daX16_valueOf 14 (r := (22, .sipush 256, 3)) rfl
theorem dX16_valueOf_25 : decode cX16_valueOf 25 = .ok (.idiv, 1) := dk_get daX16_valueOf 15 (r := (25, .idiv, 1)) rfl
theorem dX16_valueOf_26 : decode cX16_valueOf 26 = .ok (.bipush 12, 2) := dk_get daX16_valueOf 16 (r := (26, .bipush 12, 2)) rfl
theorem dX16_valueOf_28 : decode cX16_valueOf 28 = .ok (.irem, 1) := dk_get daX16_valueOf 17 (r := (28, .irem, 1)) rfl
theorem dX16_valueOf_29 : decode cX16_valueOf 29 = .ok (.iload_n 1, 1) := dk_get daX16_valueOf 18 (r := (29, .iload_n 1, 1)) rfl
theorem dX16_valueOf_30 : decode cX16_valueOf 30 = .ok (.sipush 255, 3) := dk_get daX16_valueOf 19 (r := (30, .sipush 255, 3)) rfl
theorem dX16_valueOf_33 : decode cX16_valueOf 33 = .ok (.iand, 1) := dk_get daX16_valueOf 20 (r := (33, .iand, 1)) rfl
theorem dX16_valueOf_34 : decode cX16_valueOf 34 = .ok (.invokevirtual 450, 3) := dk_get daX16_valueOf 21 (r := (34, .invokevirtual 450, 3)) rfl
theorem dX16_valueOf_37 : decode cX16_valueOf 37 = .ok (.bipush 8, 2) := dk_get daX16_valueOf 22 (r := (37, .bipush 8, 2)) rfl
theorem dX16_valueOf_39 : decode cX16_valueOf 39 = .ok (.invokevirtual 267, 3) := dk_get daX16_valueOf 23 (r := (39, .invokevirtual 267, 3)) rfl
theorem dX16_valueOf_42 : decode cX16_valueOf 42 = .ok (.lreturn, 1) := dk_get daX16_valueOf 24 (r := (42, .lreturn, 1)) rfl
abbrev mX16_connect : ks_M := (RX16, cX16_connect, 14, (some .int), "connect")
def drX16_connect : List (Nat × Instr × Nat) := [(0, .aload_n 0, 1), (1, .getfield 347, 3), (4, .iload_n 1, 1), (5, .aaload, 1), (6, .astore_n 2, 1), (7, .aload_n 2, 1), (8, .getfield 457, 3), (11, .astore_n 3, 1), (12, .lconst 0, 1), (13, .lstore 4, 2), (15, .iconst 0, 1), (16, .istore 6, 2), (18, .iload 6, 2), (20, .aload_n 3, 1), (21, .getfield 288, 3), (24, .if_icmp .ge 461, 3), (27, .iload 6, 2), (29, .ifCond .le 354, 3), (32, .lconst 0, 1), (33, .lstore 7, 2), (35, .iconst 0, 1), (36, .istore 9, 2), (38, .iload 9, 2), (40, .aload_n 3, 1), (41, .getfield 297, 3), (44, .iload 6, 2), (46, .iaload, 1), (47, .if_icmp .ge 132, 3), (50, .aload_n 0, 1), (51, .aload_n 3, 1), (52, .iload 6, 2), (54, .iload 9, 2), (56, .invokevirtual 419, 3), (59, .istore 10, 2), (61, .aload_n 0, 1), (62, .aload_n 3, 1), (63, .getfield 275, 3), (66, .iload 10, 2), (68, .aload_n 0, 1), (69, .aload_n 3, 1), (70, .getfield 275, 3), (73, .iload 10, 2), (75, .bipush 32, 2), (77, .iadd, 1), (78, .iconst 4, 1), (79, .invokevirtual 267, 3), (82, .aload_n 0, 1), (83, .getfield 461, 3), (86, .aload_n 0, 1), (87, .getfield 464, 3), (90, .invokevirtual 467, 3), (93, .istore 11, 2), (95, .iload 11, 2), (97, .ifCond .ge 6, 3), (100, .bipush 11, 2), (102, .ireturn, 1), (103, .aload_n 0, 1), (104, .getfield 461, 3), (107, .iload 11, 2), (109, .iaload, 1), (110, .istore 12, 2), (112, .iload 12, 2), (114, .sipush 256, 3), (117, .idiv, 1), (118, .bipush 12, 2), (120, .irem, 1), (121, .ifCond .ne 29, 3), (124, .aload_n 2, 1), (125, .getfield 363, 3), (128, .aload_n 0, 1), (129, .getfield 347, 3), (132, .iload 12, 2), (134, .sipush 3072, 3), (137, .idiv, 1), (138, .aaload, 1), (139, .getfield 363, 3), (142, .isub, 1), (143, .iconst 3, 1), (144, .if_icmp .ge 6, 3), (147, .bipush 12, 2), (149, .ireturn, 1), (150, .lload 7, 2), (152, .aload_n 0, 1), (153, .iload 12, 2), (155, .invokevirtual 471, 3), (158, .ladd, 1), (159, .lstore 7, 2), (161, .lload 7, 2), (163, .ldc2_w 417, 3), (166, .lcmp, 1), (167, .ifCond .le 6, 3), (170, .bipush 13, 2), (172, .ireturn, 1), (173, .iinc 9 1, 3), (176, .goto (-138), 3), (179, .lconst 0, 1), (180, .lstore 9, 2), (182, .iconst 0, 1), (183, .istore 11, 2), (185, .iload 11, 2), (187, .aload_n 3, 1), (188, .getfield 307, 3), (191, .iload 6, 2), (193, .iaload, 1), (194, .if_icmp .ge 33, 3), (197, .lload 9, 2), (199, .aload_n 0, 1), (200, .aload_n 3, 1), (201, .getfield 275, 3), (204, .aload_n 0, 1), (205, .aload_n 3, 1), (206, .iload 6, 2), (208, .iload 11, 2), (210, .invokevirtual 450, 3), (213, .bipush 8, 2), (215, .invokevirtual 267, 3), (218, .ladd, 1), (219, .lstore 9, 2), (221, .iinc 11 1, 3), (224, .goto (-39), 3), (227, .lload 7, 2), (229, .lload 9, 2), (231, .lcmp, 1), (232, .ifCond .ge 6, 3), (235, .bipush 13, 2), (237, .ireturn, 1), (238, .lload 4, 2), (240, .lload 7, 2), (242, .lload 9, 2), (244, .lsub, 1), (245, .ladd, 1), (246, .lstore 4, 2), (248, .iconst 0, 1), (249, .istore 11, 2), (251, .iload 11, 2), (253, .aload_n 3, 1), (254, .getfield 297, 3), (257, .iload 6, 2), (259, .iaload, 1), (260, .if_icmp .ge 31, 3), (263, .aload_n 2, 1), (264, .getfield 474, 3), (267, .ifCond .ne 24, 3), (270, .aload_n 0, 1), (271, .aload_n 3, 1), (272, .iload 6, 2), (274, .iload 11, 2), (276, .invokevirtual 477, 3), (279, .ifCond .ne 6, 3), (282, .bipush 14, 2), (284, .ireturn, 1), (285, .iinc 11 1, 3), (288, .goto (-37), 3), (291, .iconst 0, 1), (292, .istore 11, 2), (294, .iload 11, 2), (296, .aload_n 3, 1), (297, .getfield 297, 3), (300, .iload 6, 2), (302, .iaload, 1), (303, .if_icmp .ge 80, 3), (306, .aload_n 0, 1), (307, .aload_n 3, 1), (308, .iload 6, 2), (310, .iload 11, 2), (312, .invokevirtual 419, 3), (315, .istore 12, 2), (317, .aload_n 0, 1), (318, .aload_n 3, 1), (319, .getfield 275, 3), (322, .iload 12, 2), (324, .aload_n 0, 1), (325, .aload_n 3, 1), (326, .getfield 275, 3), (329, .iload 12, 2), (331, .bipush 32, 2), (333, .iadd, 1), (334, .iconst 4, 1), (335, .invokevirtual 267, 3), (338, .aload_n 0, 1), (339, .getfield 461, 3), (342, .aload_n 0, 1), (343, .getfield 464, 3), (346, .invokevirtual 467, 3), (349, .istore 13, 2), (351, .aload_n 0, 1), (352, .dup, 1), (353, .getfield 464, 3), (356, .iconst 1, 1), (357, .isub, 1), (358, .putfield 464, 3), (361, .aload_n 0, 1), (362, .getfield 461, 3), (365, .iload 13, 2), (367, .aload_n 0, 1), (368, .getfield 461, 3), (371, .aload_n 0, 1), (372, .getfield 464, 3), (375, .iaload, 1), (376, .iastore, 1), (377, .iinc 11 1, 3), (380, .goto (-86), 3), (383, .iconst 0, 1), (384, .istore 7, 2), (386, .iload 7, 2), (388, .aload_n 3, 1), (389, .getfield 307, 3), (392, .iload 6, 2), (394, .iaload, 1), (395, .if_icmp .ge 71, 3), (398, .aload_n 0, 1), (399, .aload_n 3, 1), (400, .getfield 316, 3), (403, .bipush 32, 2), (405, .iload 6, 2), (407, .imul, 1), (408, .iload 7, 2), (410, .i2l, 1), (411, .aload_n 0, 1), (412, .getfield 461, 3), (415, .aload_n 0, 1), (416, .getfield 464, 3), (419, .invokevirtual 467, 3), (422, .istore 8, 2), (424, .iload 8, 2), (426, .ifCond .ge 19, 3), (429, .aload_n 0, 1), (430, .getfield 464, 3), (433, .istore 8, 2), (435, .aload_n 0, 1), (436, .dup, 1), (437, .getfield 464, 3), (440, .iconst 1, 1), (441, .iadd, 1), (442, .putfield 464, 3), (445, .aload_n 0, 1), (446, .getfield 461, 3), (449, .iload 8, 2), (451, .iload_n 1, 1), (452, .iload 6, 2), (454, .iload 7, 2), (456, .invokestatic 481, 3), (459, .iastore, 1), (460, .iinc 7 1, 3), (463, .goto (-77), 3), (466, .aload_n 0, 1), (467, .getfield 464, 3), (470, .sipush 400, 3), (473, .if_icmp .le 6, 3), (476, .bipush 16, 2), (478, .ireturn, 1), (479, .iinc 6 1, 3), (482, .goto (-464), 3), (485, .lconst 0, 1), (486, .lstore 6, 2), (488, .iconst 0, 1), (489, .istore 8, 2), (491, .iload 8, 2), (493, .aload_n 3, 1), (494, .getfield 307, 3), (497, .iconst 0, 1), (498, .iaload, 1), (499, .if_icmp .ge 32, 3), (502, .lload 6, 2), (504, .aload_n 0, 1), (505, .aload_n 3, 1), (506, .getfield 275, 3), (509, .aload_n 0, 1), (510, .aload_n 3, 1), (511, .iconst 0, 1), (512, .iload 8, 2), (514, .invokevirtual 450, 3), (517, .bipush 8, 2), (519, .invokevirtual 267, 3), (522, .ladd, 1), (523, .lstore 6, 2), (525, .iinc 8 1, 3), (528, .goto (-37), 3), (531, .aload_n 2, 1), (532, .getfield 363, 3), (535, .bipush 12, 2), (537, .idiv, 1), (538, .istore 8, 2), (540, .lload 6, 2), (542, .iload 8, 2), (544, .bipush 62, 2), (546, .if_icmp .le 7, 3), (549, .lconst 0, 1), (550, .goto 9, 3), (553, .ldc2_w 485, 3), (556, .iload 8, 2), (558, .lshr, 1), (559, .lload 4, 2), (561, .ladd, 1), (562, .lcmp, 1), (563, .ifCond .le 6, 3), (566, .bipush 15, 2), (568, .ireturn, 1), (569, .aload_n 2, 1), (570, .iconst 1, 1), (571, .putfield 474, 3), (574, .iconst 0, 1), (575, .ireturn, 1)]
set_option maxRecDepth 100000 in
theorem daX16_connect : dk_all cX16_connect drX16_connect = true := by decide +kernel
theorem dX16_connect_0 : decode cX16_connect 0 = .ok (.aload_n 0, 1) := dk_get daX16_connect 0 (r := (0, .aload_n 0, 1)) rfl
theorem dX16_connect_1 : decode cX16_connect 1 = .ok (.getfield 347, 3) := dk_get daX16_connect 1 (r := (1, .getfield 347, 3)) rfl
theorem dX16_connect_4 : decode cX16_connect 4 = .ok (.iload_n 1, 1) := dk_get daX16_connect 2 (r := (4, .iload_n 1, 1)) rfl
theorem dX16_connect_5 : decode cX16_connect 5 = .ok (.aaload, 1) := dk_get daX16_connect 3 (r := (5, .aaload, 1)) rfl
theorem dX16_connect_6 : decode cX16_connect 6 = .ok (.astore_n 2, 1) := dk_get daX16_connect 4 (r := (6, .astore_n 2, 1)) rfl
theorem dX16_connect_7 : decode cX16_connect 7 = .ok (.aload_n 2, 1) := dk_get daX16_connect 5 (r := (7, .aload_n 2, 1)) rfl
theorem dX16_connect_8 : decode cX16_connect 8 = .ok (.getfield 457, 3) := dk_get daX16_connect 6 (r := (8, .getfield 457, 3)) rfl
theorem dX16_connect_11 : decode cX16_connect 11 = .ok (.astore_n 3, 1) := dk_get daX16_connect 7 (r := (11, .astore_n 3, 1)) rfl
theorem dX16_connect_12 : decode cX16_connect 12 = .ok (.lconst 0, 1) := dk_get daX16_connect 8 (r := (12, .lconst 0, 1)) rfl
theorem dX16_connect_13 : decode cX16_connect 13 = .ok (.lstore 4, 2) := dk_get daX16_connect 9 (r := (13, .lstore 4, 2)) rfl
theorem dX16_connect_15 : decode cX16_connect 15 = .ok (.iconst 0, 1) := dk_get daX16_connect 10 (r := (15, .iconst 0, 1)) rfl
theorem dX16_connect_16 : decode cX16_connect 16 = .ok (.istore 6, 2) := dk_get daX16_connect 11 (r := (16, .istore 6, 2)) rfl
theorem dX16_connect_18 : decode cX16_connect 18 = .ok (.iload 6, 2) := dk_get daX16_connect 12 (r := (18, .iload 6, 2)) rfl
theorem dX16_connect_20 : decode cX16_connect 20 = .ok (.aload_n 3, 1) := dk_get daX16_connect 13 (r := (20, .aload_n 3, 1)) rfl
theorem dX16_connect_21 : decode cX16_connect 21 = .ok (.getfield 288, 3) := dk_get daX16_connect 14 (r := (21, .getfield 288, 3)) rfl
theorem dX16_connect_24 : decode cX16_connect 24 = .ok (.if_icmp .ge 461, 3) := dk_get daX16_connect 15 (r := (24, .if_icmp .ge 461, 3)) rfl
theorem dX16_connect_27 : decode cX16_connect 27 = .ok (.iload 6, 2) := dk_get daX16_connect 16 (r := (27, .iload 6, 2)) rfl
theorem dX16_connect_29 : decode cX16_connect 29 = .ok (.ifCond .le 354, 3) := dk_get daX16_connect 17 (r := (29, .ifCond .le 354, 3)) rfl
theorem dX16_connect_32 : decode cX16_connect 32 = .ok (.lconst 0, 1) := dk_get daX16_connect 18 (r := (32, .lconst 0, 1)) rfl
theorem dX16_connect_33 : decode cX16_connect 33 = .ok (.lstore 7, 2) := dk_get daX16_connect 19 (r := (33, .lstore 7, 2)) rfl
theorem dX16_connect_35 : decode cX16_connect 35 = .ok (.iconst 0, 1) := dk_get daX16_connect 20 (r := (35, .iconst 0, 1)) rfl
theorem dX16_connect_36 : decode cX16_connect 36 = .ok (.istore 9, 2) := dk_get daX16_connect 21 (r := (36, .istore 9, 2)) rfl
theorem dX16_connect_38 : decode cX16_connect 38 = .ok (.iload 9, 2) := dk_get daX16_connect 22 (r := (38, .iload 9, 2)) rfl
theorem dX16_connect_40 : decode cX16_connect 40 = .ok (.aload_n 3, 1) := dk_get daX16_connect 23 (r := (40, .aload_n 3, 1)) rfl
theorem dX16_connect_41 : decode cX16_connect 41 = .ok (.getfield 297, 3) := dk_get daX16_connect 24 (r := (41, .getfield 297, 3)) rfl
theorem dX16_connect_44 : decode cX16_connect 44 = .ok (.iload 6, 2) := dk_get daX16_connect 25 (r := (44, .iload 6, 2)) rfl
theorem dX16_connect_46 : decode cX16_connect 46 = .ok (.iaload, 1) := dk_get daX16_connect 26 (r := (46, .iaload, 1)) rfl
theorem dX16_connect_47 : decode cX16_connect 47 = .ok (.if_icmp .ge 132, 3) := dk_get daX16_connect 27 (r := (47, .if_icmp .ge 132, 3)) rfl
theorem dX16_connect_50 : decode cX16_connect 50 = .ok (.aload_n 0, 1) := dk_get daX16_connect 28 (r := (50, .aload_n 0, 1)) rfl
theorem dX16_connect_51 : decode cX16_connect 51 = .ok (.aload_n 3, 1) := dk_get daX16_connect 29 (r := (51, .aload_n 3, 1)) rfl
theorem dX16_connect_52 : decode cX16_connect 52 = .ok (.iload 6, 2) := dk_get daX16_connect 30 (r := (52, .iload 6, 2)) rfl
theorem dX16_connect_54 : decode cX16_connect 54 = .ok (.iload 9, 2) := dk_get daX16_connect 31 (r := (54, .iload 9, 2)) rfl
theorem dX16_connect_56 : decode cX16_connect 56 = .ok (.invokevirtual 419, 3) := dk_get daX16_connect 32 (r := (56, .invokevirtual 419, 3)) rfl
theorem dX16_connect_59 : decode cX16_connect 59 = .ok (.istore 10, 2) := dk_get daX16_connect 33 (r := (59, .istore 10, 2)) rfl
theorem dX16_connect_61 : decode cX16_connect 61 = .ok (.aload_n 0, 1) := dk_get daX16_connect 34 (r := (61, .aload_n 0, 1)) rfl
theorem dX16_connect_62 : decode cX16_connect 62 = .ok (.aload_n 3, 1) := dk_get daX16_connect 35 (r := (62, .aload_n 3, 1)) rfl
theorem dX16_connect_63 : decode cX16_connect 63 = .ok (.getfield 275, 3) := dk_get daX16_connect 36 (r := (63, .getfield 275, 3)) rfl
theorem dX16_connect_66 : decode cX16_connect 66 = .ok (.iload 10, 2) := dk_get daX16_connect 37 (r := (66, .iload 10, 2)) rfl
theorem dX16_connect_68 : decode cX16_connect 68 = .ok (.aload_n 0, 1) := dk_get daX16_connect 38 (r := (68, .aload_n 0, 1)) rfl
theorem dX16_connect_69 : decode cX16_connect 69 = .ok (.aload_n 3, 1) := dk_get daX16_connect 39 (r := (69, .aload_n 3, 1)) rfl
theorem dX16_connect_70 : decode cX16_connect 70 = .ok (.getfield 275, 3) := dk_get daX16_connect 40 (r := (70, .getfield 275, 3)) rfl
theorem dX16_connect_73 : decode cX16_connect 73 = .ok (.iload 10, 2) := dk_get daX16_connect 41 (r := (73, .iload 10, 2)) rfl
theorem dX16_connect_75 : decode cX16_connect 75 = .ok (.bipush 32, 2) := dk_get daX16_connect 42 (r := (75, .bipush 32, 2)) rfl
theorem dX16_connect_77 : decode cX16_connect 77 = .ok (.iadd, 1) := dk_get daX16_connect 43 (r := (77, .iadd, 1)) rfl
theorem dX16_connect_78 : decode cX16_connect 78 = .ok (.iconst 4, 1) := dk_get daX16_connect 44 (r := (78, .iconst 4, 1)) rfl
theorem dX16_connect_79 : decode cX16_connect 79 = .ok (.invokevirtual 267, 3) := dk_get daX16_connect 45 (r := (79, .invokevirtual 267, 3)) rfl
theorem dX16_connect_82 : decode cX16_connect 82 = .ok (.aload_n 0, 1) := dk_get daX16_connect 46 (r := (82, .aload_n 0, 1)) rfl
theorem dX16_connect_83 : decode cX16_connect 83 = .ok (.getfield 461, 3) := dk_get daX16_connect 47 (r := (83, .getfield 461, 3)) rfl
theorem dX16_connect_86 : decode cX16_connect 86 = .ok (.aload_n 0, 1) := dk_get daX16_connect 48 (r := (86, .aload_n 0, 1)) rfl
theorem dX16_connect_87 : decode cX16_connect 87 = .ok (.getfield 464, 3) := dk_get daX16_connect 49 (r := (87, .getfield 464, 3)) rfl
theorem dX16_connect_90 : decode cX16_connect 90 = .ok (.invokevirtual 467, 3) := dk_get daX16_connect 50 (r := (90, .invokevirtual 467, 3)) rfl
theorem dX16_connect_93 : decode cX16_connect 93 = .ok (.istore 11, 2) := dk_get daX16_connect 51 (r := (93, .istore 11, 2)) rfl
theorem dX16_connect_95 : decode cX16_connect 95 = .ok (.iload 11, 2) := dk_get daX16_connect 52 (r := (95, .iload 11, 2)) rfl
theorem dX16_connect_97 : decode cX16_connect 97 = .ok (.ifCond .ge 6, 3) := dk_get daX16_connect 53 (r := (97, .ifCond .ge 6, 3)) rfl
theorem dX16_connect_100 : decode cX16_connect 100 = .ok (.bipush 11, 2) := dk_get daX16_connect 54 (r := (100, .bipush 11, 2)) rfl
theorem dX16_connect_102 : decode cX16_connect 102 = .ok (.ireturn, 1) := dk_get daX16_connect 55 (r := (102, .ireturn, 1)) rfl
theorem dX16_connect_103 : decode cX16_connect 103 = .ok (.aload_n 0, 1) := dk_get daX16_connect 56 (r := (103, .aload_n 0, 1)) rfl
theorem dX16_connect_104 : decode cX16_connect 104 = .ok (.getfield 461, 3) := dk_get daX16_connect 57 (r := (104, .getfield 461, 3)) rfl
theorem dX16_connect_107 : decode cX16_connect 107 = .ok (.iload 11, 2) := dk_get daX16_connect 58 (r := (107, .iload 11, 2)) rfl
theorem dX16_connect_109 : decode cX16_connect 109 = .ok (.iaload, 1) := dk_get daX16_connect 59 (r := (109, .iaload, 1)) rfl
theorem dX16_connect_110 : decode cX16_connect 110 = .ok (.istore 12, 2) := dk_get daX16_connect 60 (r := (110, .istore 12, 2)) rfl
theorem dX16_connect_112 : decode cX16_connect 112 = .ok (.iload 12, 2) := dk_get daX16_connect 61 (r := (112, .iload 12, 2)) rfl
theorem dX16_connect_114 : decode cX16_connect 114 = .ok (.sipush 256, 3) := dk_get daX16_connect 62 (r := (114, .sipush 256, 3)) rfl
theorem dX16_connect_117 : decode cX16_connect 117 = .ok (.idiv, 1) := dk_get daX16_connect 63 (r := (117, .idiv, 1)) rfl
theorem dX16_connect_118 : decode cX16_connect 118 = .ok (.bipush 12, 2) := dk_get daX16_connect 64 (r := (118, .bipush 12, 2)) rfl
theorem dX16_connect_120 : decode cX16_connect 120 = .ok (.irem, 1) := dk_get daX16_connect 65 (r := (120, .irem, 1)) rfl
theorem dX16_connect_121 : decode cX16_connect 121 = .ok (.ifCond .ne 29, 3) := dk_get daX16_connect 66 (r := (121, .ifCond .ne 29, 3)) rfl
theorem dX16_connect_124 : decode cX16_connect 124 = .ok (.aload_n 2, 1) := dk_get daX16_connect 67 (r := (124, .aload_n 2, 1)) rfl
theorem dX16_connect_125 : decode cX16_connect 125 = .ok (.getfield 363, 3) := dk_get daX16_connect 68 (r := (125, .getfield 363, 3)) rfl
theorem dX16_connect_128 : decode cX16_connect 128 = .ok (.aload_n 0, 1) := dk_get daX16_connect 69 (r := (128, .aload_n 0, 1)) rfl
theorem dX16_connect_129 : decode cX16_connect 129 = .ok (.getfield 347, 3) := dk_get daX16_connect 70 (r := (129, .getfield 347, 3)) rfl
theorem dX16_connect_132 : decode cX16_connect 132 = .ok (.iload 12, 2) := dk_get daX16_connect 71 (r := (132, .iload 12, 2)) rfl
theorem dX16_connect_134 : decode cX16_connect 134 = .ok (.sipush 3072, 3) := dk_get daX16_connect 72 (r := (134, .sipush 3072, 3)) rfl
theorem dX16_connect_137 : decode cX16_connect 137 = .ok (.idiv, 1) := dk_get daX16_connect 73 (r := (137, .idiv, 1)) rfl
theorem dX16_connect_138 : decode cX16_connect 138 = .ok (.aaload, 1) := dk_get daX16_connect 74 (r := (138, .aaload, 1)) rfl
theorem dX16_connect_139 : decode cX16_connect 139 = .ok (.getfield 363, 3) := dk_get daX16_connect 75 (r := (139, .getfield 363, 3)) rfl
theorem dX16_connect_142 : decode cX16_connect 142 = .ok (.isub, 1) := dk_get daX16_connect 76 (r := (142, .isub, 1)) rfl
theorem dX16_connect_143 : decode cX16_connect 143 = .ok (.iconst 3, 1) := dk_get daX16_connect 77 (r := (143, .iconst 3, 1)) rfl
theorem dX16_connect_144 : decode cX16_connect 144 = .ok (.if_icmp .ge 6, 3) := dk_get daX16_connect 78 (r := (144, .if_icmp .ge 6, 3)) rfl
theorem dX16_connect_147 : decode cX16_connect 147 = .ok (.bipush 12, 2) := dk_get daX16_connect 79 (r := (147, .bipush 12, 2)) rfl
theorem dX16_connect_149 : decode cX16_connect 149 = .ok (.ireturn, 1) := dk_get daX16_connect 80 (r := (149, .ireturn, 1)) rfl
theorem dX16_connect_150 : decode cX16_connect 150 = .ok (.lload 7, 2) := dk_get daX16_connect 81 (r := (150, .lload 7, 2)) rfl
theorem dX16_connect_152 : decode cX16_connect 152 = .ok (.aload_n 0, 1) := dk_get daX16_connect 82 (r := (152, .aload_n 0, 1)) rfl
theorem dX16_connect_153 : decode cX16_connect 153 = .ok (.iload 12, 2) := dk_get daX16_connect 83 (r := (153, .iload 12, 2)) rfl
theorem dX16_connect_155 : decode cX16_connect 155 = .ok (.invokevirtual 471, 3) := dk_get daX16_connect 84 (r := (155, .invokevirtual 471, 3)) rfl
theorem dX16_connect_158 : decode cX16_connect 158 = .ok (.ladd, 1) := dk_get daX16_connect 85 (r := (158, .ladd, 1)) rfl
theorem dX16_connect_159 : decode cX16_connect 159 = .ok (.lstore 7, 2) := dk_get daX16_connect 86 (r := (159, .lstore 7, 2)) rfl
theorem dX16_connect_161 : decode cX16_connect 161 = .ok (.lload 7, 2) := dk_get daX16_connect 87 (r := (161, .lload 7, 2)) rfl
theorem dX16_connect_163 : decode cX16_connect 163 = .ok (.ldc2_w 417, 3) := dk_get daX16_connect 88 (r := (163, .ldc2_w 417, 3)) rfl
theorem dX16_connect_166 : decode cX16_connect 166 = .ok (.lcmp, 1) := dk_get daX16_connect 89 (r := (166, .lcmp, 1)) rfl
theorem dX16_connect_167 : decode cX16_connect 167 = .ok (.ifCond .le 6, 3) := dk_get daX16_connect 90 (r := (167, .ifCond .le 6, 3)) rfl
theorem dX16_connect_170 : decode cX16_connect 170 = .ok (.bipush 13, 2) := dk_get daX16_connect 91 (r := (170, .bipush 13, 2)) rfl
theorem dX16_connect_172 : decode cX16_connect 172 = .ok (.ireturn, 1) := dk_get daX16_connect 92 (r := (172, .ireturn, 1)) rfl
theorem dX16_connect_173 : decode cX16_connect 173 = .ok (.iinc 9 1, 3) := dk_get daX16_connect 93 (r := (173, .iinc 9 1, 3)) rfl
theorem dX16_connect_176 : decode cX16_connect 176 = .ok (.goto (-138), 3) := dk_get daX16_connect 94 (r := (176, .goto (-138), 3)) rfl
theorem dX16_connect_179 : decode cX16_connect 179 = .ok (.lconst 0, 1) := dk_get daX16_connect 95 (r := (179, .lconst 0, 1)) rfl
theorem dX16_connect_180 : decode cX16_connect 180 = .ok (.lstore 9, 2) := dk_get daX16_connect 96 (r := (180, .lstore 9, 2)) rfl
theorem dX16_connect_182 : decode cX16_connect 182 = .ok (.iconst 0, 1) := dk_get daX16_connect 97 (r := (182, .iconst 0, 1)) rfl
theorem dX16_connect_183 : decode cX16_connect 183 = .ok (.istore 11, 2) := dk_get daX16_connect 98 (r := (183, .istore 11, 2)) rfl
theorem dX16_connect_185 : decode cX16_connect 185 = .ok (.iload 11, 2) := dk_get daX16_connect 99 (r := (185, .iload 11, 2)) rfl
theorem dX16_connect_187 : decode cX16_connect 187 = .ok (.aload_n 3, 1) := dk_get daX16_connect 100 (r := (187, .aload_n 3, 1)) rfl
theorem dX16_connect_188 : decode cX16_connect 188 = .ok (.getfield 307, 3) := dk_get daX16_connect 101 (r := (188, .getfield 307, 3)) rfl
theorem dX16_connect_191 : decode cX16_connect 191 = .ok (.iload 6, 2) := dk_get daX16_connect 102 (r := (191, .iload 6, 2)) rfl
theorem dX16_connect_193 : decode cX16_connect 193 = .ok (.iaload, 1) := dk_get daX16_connect 103 (r := (193, .iaload, 1)) rfl
theorem dX16_connect_194 : decode cX16_connect 194 = .ok (.if_icmp .ge 33, 3) := dk_get daX16_connect 104 (r := (194, .if_icmp .ge 33, 3)) rfl
theorem dX16_connect_197 : decode cX16_connect 197 = .ok (.lload 9, 2) := dk_get daX16_connect 105 (r := (197, .lload 9, 2)) rfl
theorem dX16_connect_199 : decode cX16_connect 199 = .ok (.aload_n 0, 1) := dk_get daX16_connect 106 (r := (199, .aload_n 0, 1)) rfl
theorem dX16_connect_200 : decode cX16_connect 200 = .ok (.aload_n 3, 1) := dk_get daX16_connect 107 (r := (200, .aload_n 3, 1)) rfl
theorem dX16_connect_201 : decode cX16_connect 201 = .ok (.getfield 275, 3) := dk_get daX16_connect 108 (r := (201, .getfield 275, 3)) rfl
theorem dX16_connect_204 : decode cX16_connect 204 = .ok (.aload_n 0, 1) := dk_get daX16_connect 109 (r := (204, .aload_n 0, 1)) rfl
theorem dX16_connect_205 : decode cX16_connect 205 = .ok (.aload_n 3, 1) := dk_get daX16_connect 110 (r := (205, .aload_n 3, 1)) rfl
theorem dX16_connect_206 : decode cX16_connect 206 = .ok (.iload 6, 2) := dk_get daX16_connect 111 (r := (206, .iload 6, 2)) rfl
theorem dX16_connect_208 : decode cX16_connect 208 = .ok (.iload 11, 2) := dk_get daX16_connect 112 (r := (208, .iload 11, 2)) rfl
theorem dX16_connect_210 : decode cX16_connect 210 = .ok (.invokevirtual 450, 3) := dk_get daX16_connect 113 (r := (210, .invokevirtual 450, 3)) rfl
theorem dX16_connect_213 : decode cX16_connect 213 = .ok (.bipush 8, 2) := dk_get daX16_connect 114 (r := (213, .bipush 8, 2)) rfl
theorem dX16_connect_215 : decode cX16_connect 215 = .ok (.invokevirtual 267, 3) := dk_get daX16_connect 115 (r := (215, .invokevirtual 267, 3)) rfl
theorem dX16_connect_218 : decode cX16_connect 218 = .ok (.ladd, 1) := dk_get daX16_connect 116 (r := (218, .ladd, 1)) rfl
theorem dX16_connect_219 : decode cX16_connect 219 = .ok (.lstore 9, 2) := dk_get daX16_connect 117 (r := (219, .lstore 9, 2)) rfl
theorem dX16_connect_221 : decode cX16_connect 221 = .ok (.iinc 11 1, 3) := dk_get daX16_connect 118 (r := (221, .iinc 11 1, 3)) rfl
theorem dX16_connect_224 : decode cX16_connect 224 = .ok (.goto (-39), 3) := dk_get daX16_connect 119 (r := (224, .goto (-39), 3)) rfl
theorem dX16_connect_227 : decode cX16_connect 227 = .ok (.lload 7, 2) := dk_get daX16_connect 120 (r := (227, .lload 7, 2)) rfl
theorem dX16_connect_229 : decode cX16_connect 229 = .ok (.lload 9, 2) := dk_get daX16_connect 121 (r := (229, .lload 9, 2)) rfl
theorem dX16_connect_231 : decode cX16_connect 231 = .ok (.lcmp, 1) := dk_get daX16_connect 122 (r := (231, .lcmp, 1)) rfl
theorem dX16_connect_232 : decode cX16_connect 232 = .ok (.ifCond .ge 6, 3) := dk_get daX16_connect 123 (r := (232, .ifCond .ge 6, 3)) rfl
theorem dX16_connect_235 : decode cX16_connect 235 = .ok (.bipush 13, 2) := dk_get daX16_connect 124 (r := (235, .bipush 13, 2)) rfl
theorem dX16_connect_237 : decode cX16_connect 237 = .ok (.ireturn, 1) := dk_get daX16_connect 125 (r := (237, .ireturn, 1)) rfl
theorem dX16_connect_238 : decode cX16_connect 238 = .ok (.lload 4, 2) := dk_get daX16_connect 126 (r := (238, .lload 4, 2)) rfl
theorem dX16_connect_240 : decode cX16_connect 240 = .ok (.lload 7, 2) := dk_get daX16_connect 127 (r := (240, .lload 7, 2)) rfl
theorem dX16_connect_242 : decode cX16_connect 242 = .ok (.lload 9, 2) := dk_get daX16_connect 128 (r := (242, .lload 9, 2)) rfl
theorem dX16_connect_244 : decode cX16_connect 244 = .ok (.lsub, 1) := dk_get daX16_connect 129 (r := (244, .lsub, 1)) rfl
theorem dX16_connect_245 : decode cX16_connect 245 = .ok (.ladd, 1) := dk_get daX16_connect 130 (r := (245, .ladd, 1)) rfl
theorem dX16_connect_246 : decode cX16_connect 246 = .ok (.lstore 4, 2) := dk_get daX16_connect 131 (r := (246, .lstore 4, 2)) rfl
theorem dX16_connect_248 : decode cX16_connect 248 = .ok (.iconst 0, 1) := dk_get daX16_connect 132 (r := (248, .iconst 0, 1)) rfl
theorem dX16_connect_249 : decode cX16_connect 249 = .ok (.istore 11, 2) := dk_get daX16_connect 133 (r := (249, .istore 11, 2)) rfl
theorem dX16_connect_251 : decode cX16_connect 251 = .ok (.iload 11, 2) := dk_get daX16_connect 134 (r := (251, .iload 11, 2)) rfl
theorem dX16_connect_253 : decode cX16_connect 253 = .ok (.aload_n 3, 1) := dk_get daX16_connect 135 (r := (253, .aload_n 3, 1)) rfl
theorem dX16_connect_254 : decode cX16_connect 254 = .ok (.getfield 297, 3) := dk_get daX16_connect 136 (r := (254, .getfield 297, 3)) rfl
theorem dX16_connect_257 : decode cX16_connect 257 = .ok (.iload 6, 2) := dk_get daX16_connect 137 (r := (257, .iload 6, 2)) rfl
theorem dX16_connect_259 : decode cX16_connect 259 = .ok (.iaload, 1) := dk_get daX16_connect 138 (r := (259, .iaload, 1)) rfl
theorem dX16_connect_260 : decode cX16_connect 260 = .ok (.if_icmp .ge 31, 3) := dk_get daX16_connect 139 (r := (260, .if_icmp .ge 31, 3)) rfl
theorem dX16_connect_263 : decode cX16_connect 263 = .ok (.aload_n 2, 1) := dk_get daX16_connect 140 (r := (263, .aload_n 2, 1)) rfl
theorem dX16_connect_264 : decode cX16_connect 264 = .ok (.getfield 474, 3) := dk_get daX16_connect 141 (r := (264, .getfield 474, 3)) rfl
theorem dX16_connect_267 : decode cX16_connect 267 = .ok (.ifCond .ne 24, 3) := dk_get daX16_connect 142 (r := (267, .ifCond .ne 24, 3)) rfl
theorem dX16_connect_270 : decode cX16_connect 270 = .ok (.aload_n 0, 1) := dk_get daX16_connect 143 (r := (270, .aload_n 0, 1)) rfl
theorem dX16_connect_271 : decode cX16_connect 271 = .ok (.aload_n 3, 1) := dk_get daX16_connect 144 (r := (271, .aload_n 3, 1)) rfl
theorem dX16_connect_272 : decode cX16_connect 272 = .ok (.iload 6, 2) := dk_get daX16_connect 145 (r := (272, .iload 6, 2)) rfl
theorem dX16_connect_274 : decode cX16_connect 274 = .ok (.iload 11, 2) := dk_get daX16_connect 146 (r := (274, .iload 11, 2)) rfl
theorem dX16_connect_276 : decode cX16_connect 276 = .ok (.invokevirtual 477, 3) := dk_get daX16_connect 147 (r := (276, .invokevirtual 477, 3)) rfl
theorem dX16_connect_279 : decode cX16_connect 279 = .ok (.ifCond .ne 6, 3) := dk_get daX16_connect 148 (r := (279, .ifCond .ne 6, 3)) rfl
theorem dX16_connect_282 : decode cX16_connect 282 = .ok (.bipush 14, 2) := dk_get daX16_connect 149 (r := (282, .bipush 14, 2)) rfl
theorem dX16_connect_284 : decode cX16_connect 284 = .ok (.ireturn, 1) := dk_get daX16_connect 150 (r := (284, .ireturn, 1)) rfl
theorem dX16_connect_285 : decode cX16_connect 285 = .ok (.iinc 11 1, 3) := dk_get daX16_connect 151 (r := (285, .iinc 11 1, 3)) rfl
theorem dX16_connect_288 : decode cX16_connect 288 = .ok (.goto (-37), 3) := dk_get daX16_connect 152 (r := (288, .goto (-37), 3)) rfl
theorem dX16_connect_291 : decode cX16_connect 291 = .ok (.iconst 0, 1) := dk_get daX16_connect 153 (r := (291, .iconst 0, 1)) rfl
theorem dX16_connect_292 : decode cX16_connect 292 = .ok (.istore 11, 2) := dk_get daX16_connect 154 (r := (292, .istore 11, 2)) rfl
theorem dX16_connect_294 : decode cX16_connect 294 = .ok (.iload 11, 2) := dk_get daX16_connect 155 (r := (294, .iload 11, 2)) rfl
theorem dX16_connect_296 : decode cX16_connect 296 = .ok (.aload_n 3, 1) := dk_get daX16_connect 156 (r := (296, .aload_n 3, 1)) rfl
theorem dX16_connect_297 : decode cX16_connect 297 = .ok (.getfield 297, 3) := dk_get daX16_connect 157 (r := (297, .getfield 297, 3)) rfl
theorem dX16_connect_300 : decode cX16_connect 300 = .ok (.iload 6, 2) := dk_get daX16_connect 158 (r := (300, .iload 6, 2)) rfl
theorem dX16_connect_302 : decode cX16_connect 302 = .ok (.iaload, 1) := dk_get daX16_connect 159 (r := (302, .iaload, 1)) rfl
theorem dX16_connect_303 : decode cX16_connect 303 = .ok (.if_icmp .ge 80, 3) := dk_get daX16_connect 160 (r := (303, .if_icmp .ge 80, 3)) rfl
theorem dX16_connect_306 : decode cX16_connect 306 = .ok (.aload_n 0, 1) := dk_get daX16_connect 161 (r := (306, .aload_n 0, 1)) rfl
theorem dX16_connect_307 : decode cX16_connect 307 = .ok (.aload_n 3, 1) := dk_get daX16_connect 162 (r := (307, .aload_n 3, 1)) rfl
theorem dX16_connect_308 : decode cX16_connect 308 = .ok (.iload 6, 2) := dk_get daX16_connect 163 (r := (308, .iload 6, 2)) rfl
theorem dX16_connect_310 : decode cX16_connect 310 = .ok (.iload 11, 2) := dk_get daX16_connect 164 (r := (310, .iload 11, 2)) rfl
theorem dX16_connect_312 : decode cX16_connect 312 = .ok (.invokevirtual 419, 3) := dk_get daX16_connect 165 (r := (312, .invokevirtual 419, 3)) rfl
theorem dX16_connect_315 : decode cX16_connect 315 = .ok (.istore 12, 2) := dk_get daX16_connect 166 (r := (315, .istore 12, 2)) rfl
theorem dX16_connect_317 : decode cX16_connect 317 = .ok (.aload_n 0, 1) := dk_get daX16_connect 167 (r := (317, .aload_n 0, 1)) rfl
theorem dX16_connect_318 : decode cX16_connect 318 = .ok (.aload_n 3, 1) := dk_get daX16_connect 168 (r := (318, .aload_n 3, 1)) rfl
theorem dX16_connect_319 : decode cX16_connect 319 = .ok (.getfield 275, 3) := dk_get daX16_connect 169 (r := (319, .getfield 275, 3)) rfl
theorem dX16_connect_322 : decode cX16_connect 322 = .ok (.iload 12, 2) := dk_get daX16_connect 170 (r := (322, .iload 12, 2)) rfl
theorem dX16_connect_324 : decode cX16_connect 324 = .ok (.aload_n 0, 1) := dk_get daX16_connect 171 (r := (324, .aload_n 0, 1)) rfl
theorem dX16_connect_325 : decode cX16_connect 325 = .ok (.aload_n 3, 1) := dk_get daX16_connect 172 (r := (325, .aload_n 3, 1)) rfl
theorem dX16_connect_326 : decode cX16_connect 326 = .ok (.getfield 275, 3) := dk_get daX16_connect 173 (r := (326, .getfield 275, 3)) rfl
theorem dX16_connect_329 : decode cX16_connect 329 = .ok (.iload 12, 2) := dk_get daX16_connect 174 (r := (329, .iload 12, 2)) rfl
theorem dX16_connect_331 : decode cX16_connect 331 = .ok (.bipush 32, 2) := dk_get daX16_connect 175 (r := (331, .bipush 32, 2)) rfl
theorem dX16_connect_333 : decode cX16_connect 333 = .ok (.iadd, 1) := dk_get daX16_connect 176 (r := (333, .iadd, 1)) rfl
theorem dX16_connect_334 : decode cX16_connect 334 = .ok (.iconst 4, 1) := dk_get daX16_connect 177 (r := (334, .iconst 4, 1)) rfl
theorem dX16_connect_335 : decode cX16_connect 335 = .ok (.invokevirtual 267, 3) := dk_get daX16_connect 178 (r := (335, .invokevirtual 267, 3)) rfl
theorem dX16_connect_338 : decode cX16_connect 338 = .ok (.aload_n 0, 1) := dk_get daX16_connect 179 (r := (338, .aload_n 0, 1)) rfl
theorem dX16_connect_339 : decode cX16_connect 339 = .ok (.getfield 461, 3) := dk_get daX16_connect 180 (r := (339, .getfield 461, 3)) rfl
theorem dX16_connect_342 : decode cX16_connect 342 = .ok (.aload_n 0, 1) := dk_get daX16_connect 181 (r := (342, .aload_n 0, 1)) rfl
theorem dX16_connect_343 : decode cX16_connect 343 = .ok (.getfield 464, 3) := dk_get daX16_connect 182 (r := (343, .getfield 464, 3)) rfl
theorem dX16_connect_346 : decode cX16_connect 346 = .ok (.invokevirtual 467, 3) := dk_get daX16_connect 183 (r := (346, .invokevirtual 467, 3)) rfl
theorem dX16_connect_349 : decode cX16_connect 349 = .ok (.istore 13, 2) := dk_get daX16_connect 184 (r := (349, .istore 13, 2)) rfl
theorem dX16_connect_351 : decode cX16_connect 351 = .ok (.aload_n 0, 1) := dk_get daX16_connect 185 (r := (351, .aload_n 0, 1)) rfl
theorem dX16_connect_352 : decode cX16_connect 352 = .ok (.dup, 1) := dk_get daX16_connect 186 (r := (352, .dup, 1)) rfl
theorem dX16_connect_353 : decode cX16_connect 353 = .ok (.getfield 464, 3) := dk_get daX16_connect 187 (r := (353, .getfield 464, 3)) rfl
theorem dX16_connect_356 : decode cX16_connect 356 = .ok (.iconst 1, 1) := dk_get daX16_connect 188 (r := (356, .iconst 1, 1)) rfl
theorem dX16_connect_357 : decode cX16_connect 357 = .ok (.isub, 1) := dk_get daX16_connect 189 (r := (357, .isub, 1)) rfl
theorem dX16_connect_358 : decode cX16_connect 358 = .ok (.putfield 464, 3) := dk_get daX16_connect 190 (r := (358, .putfield 464, 3)) rfl
theorem dX16_connect_361 : decode cX16_connect 361 = .ok (.aload_n 0, 1) := dk_get daX16_connect 191 (r := (361, .aload_n 0, 1)) rfl
theorem dX16_connect_362 : decode cX16_connect 362 = .ok (.getfield 461, 3) := dk_get daX16_connect 192 (r := (362, .getfield 461, 3)) rfl
theorem dX16_connect_365 : decode cX16_connect 365 = .ok (.iload 13, 2) := dk_get daX16_connect 193 (r := (365, .iload 13, 2)) rfl
theorem dX16_connect_367 : decode cX16_connect 367 = .ok (.aload_n 0, 1) := dk_get daX16_connect 194 (r := (367, .aload_n 0, 1)) rfl
theorem dX16_connect_368 : decode cX16_connect 368 = .ok (.getfield 461, 3) := dk_get daX16_connect 195 (r := (368, .getfield 461, 3)) rfl
theorem dX16_connect_371 : decode cX16_connect 371 = .ok (.aload_n 0, 1) := dk_get daX16_connect 196 (r := (371, .aload_n 0, 1)) rfl
theorem dX16_connect_372 : decode cX16_connect 372 = .ok (.getfield 464, 3) := dk_get daX16_connect 197 (r := (372, .getfield 464, 3)) rfl
theorem dX16_connect_375 : decode cX16_connect 375 = .ok (.iaload, 1) := dk_get daX16_connect 198 (r := (375, .iaload, 1)) rfl
theorem dX16_connect_376 : decode cX16_connect 376 = .ok (.iastore, 1) := dk_get daX16_connect 199 (r := (376, .iastore, 1)) rfl
theorem dX16_connect_377 : decode cX16_connect 377 = .ok (.iinc 11 1, 3) := dk_get daX16_connect 200 (r := (377, .iinc 11 1, 3)) rfl
theorem dX16_connect_380 : decode cX16_connect 380 = .ok (.goto (-86), 3) := dk_get daX16_connect 201 (r := (380, .goto (-86), 3)) rfl
theorem dX16_connect_383 : decode cX16_connect 383 = .ok (.iconst 0, 1) := dk_get daX16_connect 202 (r := (383, .iconst 0, 1)) rfl
theorem dX16_connect_384 : decode cX16_connect 384 = .ok (.istore 7, 2) := dk_get daX16_connect 203 (r := (384, .istore 7, 2)) rfl
theorem dX16_connect_386 : decode cX16_connect 386 = .ok (.iload 7, 2) := dk_get daX16_connect 204 (r := (386, .iload 7, 2)) rfl
theorem dX16_connect_388 : decode cX16_connect 388 = .ok (.aload_n 3, 1) := dk_get daX16_connect 205 (r := (388, .aload_n 3, 1)) rfl
theorem dX16_connect_389 : decode cX16_connect 389 = .ok (.getfield 307, 3) := dk_get daX16_connect 206 (r := (389, .getfield 307, 3)) rfl
theorem dX16_connect_392 : decode cX16_connect 392 = .ok (.iload 6, 2) := dk_get daX16_connect 207 (r := (392, .iload 6, 2)) rfl
theorem dX16_connect_394 : decode cX16_connect 394 = .ok (.iaload, 1) := dk_get daX16_connect 208 (r := (394, .iaload, 1)) rfl
theorem dX16_connect_395 : decode cX16_connect 395 = .ok (.if_icmp .ge 71, 3) := dk_get daX16_connect 209 (r := (395, .if_icmp .ge 71, 3)) rfl
theorem dX16_connect_398 : decode cX16_connect 398 = .ok (.aload_n 0, 1) := dk_get daX16_connect 210 (r := (398, .aload_n 0, 1)) rfl
theorem dX16_connect_399 : decode cX16_connect 399 = .ok (.aload_n 3, 1) := dk_get daX16_connect 211 (r := (399, .aload_n 3, 1)) rfl
theorem dX16_connect_400 : decode cX16_connect 400 = .ok (.getfield 316, 3) := dk_get daX16_connect 212 (r := (400, .getfield 316, 3)) rfl
theorem dX16_connect_403 : decode cX16_connect 403 = .ok (.bipush 32, 2) := dk_get daX16_connect 213 (r := (403, .bipush 32, 2)) rfl
theorem dX16_connect_405 : decode cX16_connect 405 = .ok (.iload 6, 2) := dk_get daX16_connect 214 (r := (405, .iload 6, 2)) rfl
theorem dX16_connect_407 : decode cX16_connect 407 = .ok (.imul, 1) := dk_get daX16_connect 215 (r := (407, .imul, 1)) rfl
theorem dX16_connect_408 : decode cX16_connect 408 = .ok (.iload 7, 2) := dk_get daX16_connect 216 (r := (408, .iload 7, 2)) rfl
theorem dX16_connect_410 : decode cX16_connect 410 = .ok (.i2l, 1) := dk_get daX16_connect 217 (r := (410, .i2l, 1)) rfl
theorem dX16_connect_411 : decode cX16_connect 411 = .ok (.aload_n 0, 1) := dk_get daX16_connect 218 (r := (411, .aload_n 0, 1)) rfl
theorem dX16_connect_412 : decode cX16_connect 412 = .ok (.getfield 461, 3) := dk_get daX16_connect 219 (r := (412, .getfield 461, 3)) rfl
theorem dX16_connect_415 : decode cX16_connect 415 = .ok (.aload_n 0, 1) := dk_get daX16_connect 220 (r := (415, .aload_n 0, 1)) rfl
theorem dX16_connect_416 : decode cX16_connect 416 = .ok (.getfield 464, 3) := dk_get daX16_connect 221 (r := (416, .getfield 464, 3)) rfl
theorem dX16_connect_419 : decode cX16_connect 419 = .ok (.invokevirtual 467, 3) := dk_get daX16_connect 222 (r := (419, .invokevirtual 467, 3)) rfl
theorem dX16_connect_422 : decode cX16_connect 422 = .ok (.istore 8, 2) := dk_get daX16_connect 223 (r := (422, .istore 8, 2)) rfl
theorem dX16_connect_424 : decode cX16_connect 424 = .ok (.iload 8, 2) := dk_get daX16_connect 224 (r := (424, .iload 8, 2)) rfl
theorem dX16_connect_426 : decode cX16_connect 426 = .ok (.ifCond .ge 19, 3) := dk_get daX16_connect 225 (r := (426, .ifCond .ge 19, 3)) rfl
theorem dX16_connect_429 : decode cX16_connect 429 = .ok (.aload_n 0, 1) := dk_get daX16_connect 226 (r := (429, .aload_n 0, 1)) rfl
theorem dX16_connect_430 : decode cX16_connect 430 = .ok (.getfield 464, 3) := dk_get daX16_connect 227 (r := (430, .getfield 464, 3)) rfl
theorem dX16_connect_433 : decode cX16_connect 433 = .ok (.istore 8, 2) := dk_get daX16_connect 228 (r := (433, .istore 8, 2)) rfl
theorem dX16_connect_435 : decode cX16_connect 435 = .ok (.aload_n 0, 1) := dk_get daX16_connect 229 (r := (435, .aload_n 0, 1)) rfl
theorem dX16_connect_436 : decode cX16_connect 436 = .ok (.dup, 1) := dk_get daX16_connect 230 (r := (436, .dup, 1)) rfl
theorem dX16_connect_437 : decode cX16_connect 437 = .ok (.getfield 464, 3) := dk_get daX16_connect 231 (r := (437, .getfield 464, 3)) rfl
theorem dX16_connect_440 : decode cX16_connect 440 = .ok (.iconst 1, 1) := dk_get daX16_connect 232 (r := (440, .iconst 1, 1)) rfl
theorem dX16_connect_441 : decode cX16_connect 441 = .ok (.iadd, 1) := dk_get daX16_connect 233 (r := (441, .iadd, 1)) rfl
theorem dX16_connect_442 : decode cX16_connect 442 = .ok (.putfield 464, 3) := dk_get daX16_connect 234 (r := (442, .putfield 464, 3)) rfl
theorem dX16_connect_445 : decode cX16_connect 445 = .ok (.aload_n 0, 1) := dk_get daX16_connect 235 (r := (445, .aload_n 0, 1)) rfl
theorem dX16_connect_446 : decode cX16_connect 446 = .ok (.getfield 461, 3) := dk_get daX16_connect 236 (r := (446, .getfield 461, 3)) rfl
theorem dX16_connect_449 : decode cX16_connect 449 = .ok (.iload 8, 2) := dk_get daX16_connect 237 (r := (449, .iload 8, 2)) rfl
theorem dX16_connect_451 : decode cX16_connect 451 = .ok (.iload_n 1, 1) := dk_get daX16_connect 238 (r := (451, .iload_n 1, 1)) rfl
theorem dX16_connect_452 : decode cX16_connect 452 = .ok (.iload 6, 2) := dk_get daX16_connect 239 (r := (452, .iload 6, 2)) rfl
theorem dX16_connect_454 : decode cX16_connect 454 = .ok (.iload 7, 2) := dk_get daX16_connect 240 (r := (454, .iload 7, 2)) rfl
theorem dX16_connect_456 : decode cX16_connect 456 = .ok (.invokestatic 481, 3) := dk_get daX16_connect 241 (r := (456, .invokestatic 481, 3)) rfl
theorem dX16_connect_459 : decode cX16_connect 459 = .ok (.iastore, 1) := dk_get daX16_connect 242 (r := (459, .iastore, 1)) rfl
theorem dX16_connect_460 : decode cX16_connect 460 = .ok (.iinc 7 1, 3) := dk_get daX16_connect 243 (r := (460, .iinc 7 1, 3)) rfl
theorem dX16_connect_463 : decode cX16_connect 463 = .ok (.goto (-77), 3) := dk_get daX16_connect 244 (r := (463, .goto (-77), 3)) rfl
theorem dX16_connect_466 : decode cX16_connect 466 = .ok (.aload_n 0, 1) := dk_get daX16_connect 245 (r := (466, .aload_n 0, 1)) rfl
theorem dX16_connect_467 : decode cX16_connect 467 = .ok (.getfield 464, 3) := dk_get daX16_connect 246 (r := (467, .getfield 464, 3)) rfl
theorem dX16_connect_470 : decode cX16_connect 470 = .ok (.sipush 400, 3) := dk_get daX16_connect 247 (r := (470, .sipush 400, 3)) rfl
theorem dX16_connect_473 : decode cX16_connect 473 = .ok (.if_icmp .le 6, 3) := dk_get daX16_connect 248 (r := (473, .if_icmp .le 6, 3)) rfl
theorem dX16_connect_476 : decode cX16_connect 476 = .ok (.bipush 16, 2) := dk_get daX16_connect 249 (r := (476, .bipush 16, 2)) rfl
theorem dX16_connect_478 : decode cX16_connect 478 = .ok (.ireturn, 1) := dk_get daX16_connect 250 (r := (478, .ireturn, 1)) rfl
theorem dX16_connect_479 : decode cX16_connect 479 = .ok (.iinc 6 1, 3) := dk_get daX16_connect 251 (r := (479, .iinc 6 1, 3)) rfl
theorem dX16_connect_482 : decode cX16_connect 482 = .ok (.goto (-464), 3) := dk_get daX16_connect 252 (r := (482, .goto (-464), 3)) rfl
theorem dX16_connect_485 : decode cX16_connect 485 = .ok (.lconst 0, 1) := dk_get daX16_connect 253 (r := (485, .lconst 0, 1)) rfl
theorem dX16_connect_486 : decode cX16_connect 486 = .ok (.lstore 6, 2) := dk_get daX16_connect 254 (r := (486, .lstore 6, 2)) rfl
theorem dX16_connect_488 : decode cX16_connect 488 = .ok (.iconst 0, 1) := dk_get daX16_connect 255 (r := (488, .iconst 0, 1)) rfl
theorem dX16_connect_489 : decode cX16_connect 489 = .ok (.istore 8, 2) := dk_get daX16_connect 256 (r := (489, .istore 8, 2)) rfl
theorem dX16_connect_491 : decode cX16_connect 491 = .ok (.iload 8, 2) := dk_get daX16_connect 257 (r := (491, .iload 8, 2)) rfl
theorem dX16_connect_493 : decode cX16_connect 493 = .ok (.aload_n 3, 1) := dk_get daX16_connect 258 (r := (493, .aload_n 3, 1)) rfl
theorem dX16_connect_494 : decode cX16_connect 494 = .ok (.getfield 307, 3) := dk_get daX16_connect 259 (r := (494, .getfield 307, 3)) rfl
theorem dX16_connect_497 : decode cX16_connect 497 = .ok (.iconst 0, 1) := dk_get daX16_connect 260 (r := (497, .iconst 0, 1)) rfl
theorem dX16_connect_498 : decode cX16_connect 498 = .ok (.iaload, 1) := dk_get daX16_connect 261 (r := (498, .iaload, 1)) rfl
theorem dX16_connect_499 : decode cX16_connect 499 = .ok (.if_icmp .ge 32, 3) := dk_get daX16_connect 262 (r := (499, .if_icmp .ge 32, 3)) rfl
theorem dX16_connect_502 : decode cX16_connect 502 = .ok (.lload 6, 2) := dk_get daX16_connect 263 (r := (502, .lload 6, 2)) rfl
theorem dX16_connect_504 : decode cX16_connect 504 = .ok (.aload_n 0, 1) := dk_get daX16_connect 264 (r := (504, .aload_n 0, 1)) rfl
theorem dX16_connect_505 : decode cX16_connect 505 = .ok (.aload_n 3, 1) := dk_get daX16_connect 265 (r := (505, .aload_n 3, 1)) rfl
theorem dX16_connect_506 : decode cX16_connect 506 = .ok (.getfield 275, 3) := dk_get daX16_connect 266 (r := (506, .getfield 275, 3)) rfl
theorem dX16_connect_509 : decode cX16_connect 509 = .ok (.aload_n 0, 1) := dk_get daX16_connect 267 (r := (509, .aload_n 0, 1)) rfl
theorem dX16_connect_510 : decode cX16_connect 510 = .ok (.aload_n 3, 1) := dk_get daX16_connect 268 (r := (510, .aload_n 3, 1)) rfl
theorem dX16_connect_511 : decode cX16_connect 511 = .ok (.iconst 0, 1) := dk_get daX16_connect 269 (r := (511, .iconst 0, 1)) rfl
theorem dX16_connect_512 : decode cX16_connect 512 = .ok (.iload 8, 2) := dk_get daX16_connect 270 (r := (512, .iload 8, 2)) rfl
theorem dX16_connect_514 : decode cX16_connect 514 = .ok (.invokevirtual 450, 3) := dk_get daX16_connect 271 (r := (514, .invokevirtual 450, 3)) rfl
theorem dX16_connect_517 : decode cX16_connect 517 = .ok (.bipush 8, 2) := dk_get daX16_connect 272 (r := (517, .bipush 8, 2)) rfl
theorem dX16_connect_519 : decode cX16_connect 519 = .ok (.invokevirtual 267, 3) := dk_get daX16_connect 273 (r := (519, .invokevirtual 267, 3)) rfl
theorem dX16_connect_522 : decode cX16_connect 522 = .ok (.ladd, 1) := dk_get daX16_connect 274 (r := (522, .ladd, 1)) rfl
theorem dX16_connect_523 : decode cX16_connect 523 = .ok (.lstore 6, 2) := dk_get daX16_connect 275 (r := (523, .lstore 6, 2)) rfl
theorem dX16_connect_525 : decode cX16_connect 525 = .ok (.iinc 8 1, 3) := dk_get daX16_connect 276 (r := (525, .iinc 8 1, 3)) rfl
theorem dX16_connect_528 : decode cX16_connect 528 = .ok (.goto (-37), 3) := dk_get daX16_connect 277 (r := (528, .goto (-37), 3)) rfl
theorem dX16_connect_531 : decode cX16_connect 531 = .ok (.aload_n 2, 1) := dk_get daX16_connect 278 (r := (531, .aload_n 2, 1)) rfl
theorem dX16_connect_532 : decode cX16_connect 532 = .ok (.getfield 363, 3) := dk_get daX16_connect 279 (r := (532, .getfield 363, 3)) rfl
theorem dX16_connect_535 : decode cX16_connect 535 = .ok (.bipush 12, 2) := dk_get daX16_connect 280 (r := (535, .bipush 12, 2)) rfl
theorem dX16_connect_537 : decode cX16_connect 537 = .ok (.idiv, 1) := dk_get daX16_connect 281 (r := (537, .idiv, 1)) rfl
theorem dX16_connect_538 : decode cX16_connect 538 = .ok (.istore 8, 2) := dk_get daX16_connect 282 (r := (538, .istore 8, 2)) rfl
theorem dX16_connect_540 : decode cX16_connect 540 = .ok (.lload 6, 2) := dk_get daX16_connect 283 (r := (540, .lload 6, 2)) rfl
theorem dX16_connect_542 : decode cX16_connect 542 = .ok (.iload 8, 2) := dk_get daX16_connect 284 (r := (542, .iload 8, 2)) rfl
theorem dX16_connect_544 : decode cX16_connect 544 = .ok (.bipush 62, 2) := dk_get daX16_connect 285 (r := (544, .bipush 62, 2)) rfl
theorem dX16_connect_546 : decode cX16_connect 546 = .ok (.if_icmp .le 7, 3) := dk_get daX16_connect 286 (r := (546, .if_icmp .le 7, 3)) rfl
theorem dX16_connect_549 : decode cX16_connect 549 = .ok (.lconst 0, 1) := dk_get daX16_connect 287 (r := (549, .lconst 0, 1)) rfl
theorem dX16_connect_550 : decode cX16_connect 550 = .ok (.goto 9, 3) := dk_get daX16_connect 288 (r := (550, .goto 9, 3)) rfl
theorem dX16_connect_553 : decode cX16_connect 553 = .ok (.ldc2_w 485, 3) := dk_get daX16_connect 289 (r := (553, .ldc2_w 485, 3)) rfl
theorem dX16_connect_556 : decode cX16_connect 556 = .ok (.iload 8, 2) := dk_get daX16_connect 290 (r := (556, .iload 8, 2)) rfl
theorem dX16_connect_558 : decode cX16_connect 558 = .ok (.lshr, 1) := dk_get daX16_connect 291 (r := (558, .lshr, 1)) rfl
theorem dX16_connect_559 : decode cX16_connect 559 = .ok (.lload 4, 2) := dk_get daX16_connect 292 (r := (559, .lload 4, 2)) rfl
theorem dX16_connect_561 : decode cX16_connect 561 = .ok (.ladd, 1) := dk_get daX16_connect 293 (r := (561, .ladd, 1)) rfl
theorem dX16_connect_562 : decode cX16_connect 562 = .ok (.lcmp, 1) := dk_get daX16_connect 294 (r := (562, .lcmp, 1)) rfl
theorem dX16_connect_563 : decode cX16_connect 563 = .ok (.ifCond .le 6, 3) := dk_get daX16_connect 295 (r := (563, .ifCond .le 6, 3)) rfl
theorem dX16_connect_566 : decode cX16_connect 566 = .ok (.bipush 15, 2) := dk_get daX16_connect 296 (r := (566, .bipush 15, 2)) rfl
theorem dX16_connect_568 : decode cX16_connect 568 = .ok (.ireturn, 1) := dk_get daX16_connect 297 (r := (568, .ireturn, 1)) rfl
theorem dX16_connect_569 : decode cX16_connect 569 = .ok (.aload_n 2, 1) := dk_get daX16_connect 298 (r := (569, .aload_n 2, 1)) rfl
theorem dX16_connect_570 : decode cX16_connect 570 = .ok (.iconst 1, 1) := dk_get daX16_connect 299 (r := (570, .iconst 1, 1)) rfl
theorem dX16_connect_571 : decode cX16_connect 571 = .ok (.putfield 474, 3) := dk_get daX16_connect 300 (r := (571, .putfield 474, 3)) rfl
theorem dX16_connect_574 : decode cX16_connect 574 = .ok (.iconst 0, 1) := dk_get daX16_connect 301 (r := (574, .iconst 0, 1)) rfl
theorem dX16_connect_575 : decode cX16_connect 575 = .ok (.ireturn, 1) := dk_get daX16_connect 302 (r := (575, .ireturn, 1)) rfl
abbrev mX16_chain : ks_M := (RX16, cX16_chain, 6, (some .int), "chain")
def drX16_chain : List (Nat × Instr × Nat) := [(0, .iconst 0, 1), (1, .istore_n 2, 1), (2, .iload_n 1, 1), (3, .istore_n 3, 1), (4, .iload_n 3, 1), (5, .ifCond .lt 26, 3), (8, .aload_n 0, 1), (9, .getfield 487, 3), (12, .iload_n 2, 1), (13, .iload_n 3, 1), (14, .iastore, 1), (15, .iinc 2 1, 3), (18, .aload_n 0, 1), (19, .getfield 347, 3), (22, .iload_n 3, 1), (23, .aaload, 1), (24, .getfield 354, 3), (27, .istore_n 3, 1), (28, .goto (-24), 3), (31, .aload_n 0, 1), (32, .iconst 0, 1), (33, .putfield 464, 3), (36, .iload_n 2, 1), (37, .iconst 1, 1), (38, .isub, 1), (39, .istore_n 3, 1), (40, .iload_n 3, 1), (41, .ifCond .lt 82, 3), (44, .aload_n 0, 1), (45, .aload_n 0, 1), (46, .getfield 487, 3), (49, .iload_n 3, 1), (50, .iaload, 1), (51, .invokevirtual 490, 3), (54, .istore 4, 2), (56, .iload 4, 2), (58, .ifCond .ne 6, 3), (61, .goto 56, 3), (64, .aload_n 0, 1), (65, .getfield 487, 3), (68, .iload_n 3, 1), (69, .iaload, 1), (70, .istore 5, 2), (72, .iload 5, 2), (74, .aload_n 0, 1), (75, .getfield 403, 3), (78, .if_icmp .ge 36, 3), (81, .aload_n 0, 1), (82, .getfield 347, 3), (85, .iload 5, 2), (87, .aaload, 1), (88, .dup, 1), (89, .getfield 432, 3), (92, .aload_n 0, 1), (93, .aload_n 0, 1), (94, .getfield 487, 3), (97, .iload_n 3, 1), (98, .iaload, 1), (99, .iload 5, 2), (101, .invokevirtual 493, 3), (104, .ior, 1), (105, .putfield 432, 3), (108, .iinc 5 1, 3), (111, .goto (-39), 3), (114, .iload 4, 2), (116, .ireturn, 1), (117, .iinc 3 (-1), 3), (120, .goto (-80), 3), (123, .iconst 0, 1), (124, .ireturn, 1)]
set_option maxRecDepth 100000 in
theorem daX16_chain : dk_all cX16_chain drX16_chain = true := by decide +kernel
theorem dX16_chain_0 : decode cX16_chain 0 = .ok (.iconst 0, 1) := dk_get daX16_chain 0 (r := (0, .iconst 0, 1)) rfl
theorem dX16_chain_1 : decode cX16_chain 1 = .ok (.istore_n 2, 1) := dk_get daX16_chain 1 (r := (1, .istore_n 2, 1)) rfl
theorem dX16_chain_2 : decode cX16_chain 2 = .ok (.iload_n 1, 1) := dk_get daX16_chain 2 (r := (2, .iload_n 1, 1)) rfl
theorem dX16_chain_3 : decode cX16_chain 3 = .ok (.istore_n 3, 1) := dk_get daX16_chain 3 (r := (3, .istore_n 3, 1)) rfl
theorem dX16_chain_4 : decode cX16_chain 4 = .ok (.iload_n 3, 1) := dk_get daX16_chain 4 (r := (4, .iload_n 3, 1)) rfl
theorem dX16_chain_5 : decode cX16_chain 5 = .ok (.ifCond .lt 26, 3) := dk_get daX16_chain 5 (r := (5, .ifCond .lt 26, 3)) rfl
theorem dX16_chain_8 : decode cX16_chain 8 = .ok (.aload_n 0, 1) := dk_get daX16_chain 6 (r := (8, .aload_n 0, 1)) rfl
theorem dX16_chain_9 : decode cX16_chain 9 = .ok (.getfield 487, 3) := dk_get daX16_chain 7 (r := (9, .getfield 487, 3)) rfl
theorem dX16_chain_12 : decode cX16_chain 12 = .ok (.iload_n 2, 1) := dk_get daX16_chain 8 (r := (12, .iload_n 2, 1)) rfl
theorem dX16_chain_13 : decode cX16_chain 13 = .ok (.iload_n 3, 1) := dk_get daX16_chain 9 (r := (13, .iload_n 3, 1)) rfl
theorem dX16_chain_14 : decode cX16_chain 14 = .ok (.iastore, 1) := dk_get daX16_chain 10 (r := (14, .iastore, 1)) rfl
theorem dX16_chain_15 : decode cX16_chain 15 = .ok (.iinc 2 1, 3) := dk_get daX16_chain 11 (r := (15, .iinc 2 1, 3)) rfl
theorem dX16_chain_18 : decode cX16_chain 18 = .ok (.aload_n 0, 1) := dk_get daX16_chain 12 (r := (18, .aload_n 0, 1)) rfl
theorem dX16_chain_19 : decode cX16_chain 19 = .ok (.getfield 347, 3) := dk_get daX16_chain 13 (r := (19, .getfield 347, 3)) rfl
theorem dX16_chain_22 : decode cX16_chain 22 = .ok (.iload_n 3, 1) := dk_get daX16_chain 14 (r := (22, .iload_n 3, 1)) rfl
theorem dX16_chain_23 : decode cX16_chain 23 = .ok (.aaload, 1) := dk_get daX16_chain 15 (r := (23, .aaload, 1)) rfl
theorem dX16_chain_24 : decode cX16_chain 24 = .ok (.getfield 354, 3) := dk_get daX16_chain 16 (r := (24, .getfield 354, 3)) rfl
theorem dX16_chain_27 : decode cX16_chain 27 = .ok (.istore_n 3, 1) := dk_get daX16_chain 17 (r := (27, .istore_n 3, 1)) rfl
theorem dX16_chain_28 : decode cX16_chain 28 = .ok (.goto (-24), 3) := dk_get daX16_chain 18 (r := (28, .goto (-24), 3)) rfl
theorem dX16_chain_31 : decode cX16_chain 31 = .ok (.aload_n 0, 1) := dk_get daX16_chain 19 (r := (31, .aload_n 0, 1)) rfl
theorem dX16_chain_32 : decode cX16_chain 32 = .ok (.iconst 0, 1) := dk_get daX16_chain 20 (r := (32, .iconst 0, 1)) rfl
theorem dX16_chain_33 : decode cX16_chain 33 = .ok (.putfield 464, 3) := dk_get daX16_chain 21 (r := (33, .putfield 464, 3)) rfl
theorem dX16_chain_36 : decode cX16_chain 36 = .ok (.iload_n 2, 1) := dk_get daX16_chain 22 (r := (36, .iload_n 2, 1)) rfl
theorem dX16_chain_37 : decode cX16_chain 37 = .ok (.iconst 1, 1) := dk_get daX16_chain 23 (r := (37, .iconst 1, 1)) rfl
theorem dX16_chain_38 : decode cX16_chain 38 = .ok (.isub, 1) := dk_get daX16_chain 24 (r := (38, .isub, 1)) rfl
theorem dX16_chain_39 : decode cX16_chain 39 = .ok (.istore_n 3, 1) := dk_get daX16_chain 25 (r := (39, .istore_n 3, 1)) rfl
theorem dX16_chain_40 : decode cX16_chain 40 = .ok (.iload_n 3, 1) := dk_get daX16_chain 26 (r := (40, .iload_n 3, 1)) rfl
theorem dX16_chain_41 : decode cX16_chain 41 = .ok (.ifCond .lt 82, 3) := dk_get daX16_chain 27 (r := (41, .ifCond .lt 82, 3)) rfl
theorem dX16_chain_44 : decode cX16_chain 44 = .ok (.aload_n 0, 1) := dk_get daX16_chain 28 (r := (44, .aload_n 0, 1)) rfl
theorem dX16_chain_45 : decode cX16_chain 45 = .ok (.aload_n 0, 1) := dk_get daX16_chain 29 (r := (45, .aload_n 0, 1)) rfl
theorem dX16_chain_46 : decode cX16_chain 46 = .ok (.getfield 487, 3) := dk_get daX16_chain 30 (r := (46, .getfield 487, 3)) rfl
theorem dX16_chain_49 : decode cX16_chain 49 = .ok (.iload_n 3, 1) := dk_get daX16_chain 31 (r := (49, .iload_n 3, 1)) rfl
theorem dX16_chain_50 : decode cX16_chain 50 = .ok (.iaload, 1) := dk_get daX16_chain 32 (r := (50, .iaload, 1)) rfl
theorem dX16_chain_51 : decode cX16_chain 51 = .ok (.invokevirtual 490, 3) := dk_get daX16_chain 33 (r := (51, .invokevirtual 490, 3)) rfl
theorem dX16_chain_54 : decode cX16_chain 54 = .ok (.istore 4, 2) := dk_get daX16_chain 34 (r := (54, .istore 4, 2)) rfl
theorem dX16_chain_56 : decode cX16_chain 56 = .ok (.iload 4, 2) := dk_get daX16_chain 35 (r := (56, .iload 4, 2)) rfl
theorem dX16_chain_58 : decode cX16_chain 58 = .ok (.ifCond .ne 6, 3) := dk_get daX16_chain 36 (r := (58, .ifCond .ne 6, 3)) rfl
theorem dX16_chain_61 : decode cX16_chain 61 = .ok (.goto 56, 3) := dk_get daX16_chain 37 (r := (61, .goto 56, 3)) rfl
theorem dX16_chain_64 : decode cX16_chain 64 = .ok (.aload_n 0, 1) := dk_get daX16_chain 38 (r := (64, .aload_n 0, 1)) rfl
theorem dX16_chain_65 : decode cX16_chain 65 = .ok (.getfield 487, 3) := dk_get daX16_chain 39 (r := (65, .getfield 487, 3)) rfl
theorem dX16_chain_68 : decode cX16_chain 68 = .ok (.iload_n 3, 1) := dk_get daX16_chain 40 (r := (68, .iload_n 3, 1)) rfl
theorem dX16_chain_69 : decode cX16_chain 69 = .ok (.iaload, 1) := dk_get daX16_chain 41 (r := (69, .iaload, 1)) rfl
theorem dX16_chain_70 : decode cX16_chain 70 = .ok (.istore 5, 2) := dk_get daX16_chain 42 (r := (70, .istore 5, 2)) rfl
theorem dX16_chain_72 : decode cX16_chain 72 = .ok (.iload 5, 2) := dk_get daX16_chain 43 (r := (72, .iload 5, 2)) rfl
theorem dX16_chain_74 : decode cX16_chain 74 = .ok (.aload_n 0, 1) := dk_get daX16_chain 44 (r := (74, .aload_n 0, 1)) rfl
theorem dX16_chain_75 : decode cX16_chain 75 = .ok (.getfield 403, 3) := dk_get daX16_chain 45 (r := (75, .getfield 403, 3)) rfl
theorem dX16_chain_78 : decode cX16_chain 78 = .ok (.if_icmp .ge 36, 3) := dk_get daX16_chain 46 (r := (78, .if_icmp .ge 36, 3)) rfl
theorem dX16_chain_81 : decode cX16_chain 81 = .ok (.aload_n 0, 1) := dk_get daX16_chain 47 (r := (81, .aload_n 0, 1)) rfl
theorem dX16_chain_82 : decode cX16_chain 82 = .ok (.getfield 347, 3) := dk_get daX16_chain 48 (r := (82, .getfield 347, 3)) rfl
theorem dX16_chain_85 : decode cX16_chain 85 = .ok (.iload 5, 2) := dk_get daX16_chain 49 (r := (85, .iload 5, 2)) rfl
theorem dX16_chain_87 : decode cX16_chain 87 = .ok (.aaload, 1) := dk_get daX16_chain 50 (r := (87, .aaload, 1)) rfl
theorem dX16_chain_88 : decode cX16_chain 88 = .ok (.dup, 1) := dk_get daX16_chain 51 (r := (88, .dup, 1)) rfl
theorem dX16_chain_89 : decode cX16_chain 89 = .ok (.getfield 432, 3) := dk_get daX16_chain 52 (r := (89, .getfield 432, 3)) rfl
theorem dX16_chain_92 : decode cX16_chain 92 = .ok (.aload_n 0, 1) := dk_get daX16_chain 53 (r := (92, .aload_n 0, 1)) rfl
theorem dX16_chain_93 : decode cX16_chain 93 = .ok (.aload_n 0, 1) := dk_get daX16_chain 54 (r := (93, .aload_n 0, 1)) rfl
theorem dX16_chain_94 : decode cX16_chain 94 = .ok (.getfield 487, 3) := dk_get daX16_chain 55 (r := (94, .getfield 487, 3)) rfl
theorem dX16_chain_97 : decode cX16_chain 97 = .ok (.iload_n 3, 1) := dk_get daX16_chain 56 (r := (97, .iload_n 3, 1)) rfl
theorem dX16_chain_98 : decode cX16_chain 98 = .ok (.iaload, 1) := dk_get daX16_chain 57 (r := (98, .iaload, 1)) rfl
theorem dX16_chain_99 : decode cX16_chain 99 = .ok (.iload 5, 2) := dk_get daX16_chain 58 (r := (99, .iload 5, 2)) rfl
theorem dX16_chain_101 : decode cX16_chain 101 = .ok (.invokevirtual 493, 3) := dk_get daX16_chain 59 (r := (101, .invokevirtual 493, 3)) rfl
theorem dX16_chain_104 : decode cX16_chain 104 = .ok (.ior, 1) := dk_get daX16_chain 60 (r := (104, .ior, 1)) rfl
theorem dX16_chain_105 : decode cX16_chain 105 = .ok (.putfield 432, 3) := dk_get daX16_chain 61 (r := (105, .putfield 432, 3)) rfl
theorem dX16_chain_108 : decode cX16_chain 108 = .ok (.iinc 5 1, 3) := dk_get daX16_chain 62 (r := (108, .iinc 5 1, 3)) rfl
theorem dX16_chain_111 : decode cX16_chain 111 = .ok (.goto (-39), 3) := dk_get daX16_chain 63 (r := (111, .goto (-39), 3)) rfl
theorem dX16_chain_114 : decode cX16_chain 114 = .ok (.iload 4, 2) := dk_get daX16_chain 64 (r := (114, .iload 4, 2)) rfl
theorem dX16_chain_116 : decode cX16_chain 116 = .ok (.ireturn, 1) := dk_get daX16_chain 65 (r := (116, .ireturn, 1)) rfl
theorem dX16_chain_117 : decode cX16_chain 117 = .ok (.iinc 3 (-1), 3) := dk_get daX16_chain 66 (r := (117, .iinc 3 (-1), 3)) rfl
theorem dX16_chain_120 : decode cX16_chain 120 = .ok (.goto (-80), 3) := dk_get daX16_chain 67 (r := (120, .goto (-80), 3)) rfl
theorem dX16_chain_123 : decode cX16_chain 123 = .ok (.iconst 0, 1) := dk_get daX16_chain 68 (r := (123, .iconst 0, 1)) rfl
theorem dX16_chain_124 : decode cX16_chain 124 = .ok (.ireturn, 1) := dk_get daX16_chain 69 (r := (124, .ireturn, 1)) rfl
abbrev mX16_take : ks_M := (RX16, cX16_take, 2, none, "take")
def drX16_take : List (Nat × Instr × Nat) := [(0, .aload_n 0, 1), (1, .aload_n 0, 1), (2, .getfield 464, 3), (5, .putfield 497, 3), (8, .iconst 0, 1), (9, .istore_n 1, 1), (10, .iload_n 1, 1), (11, .aload_n 0, 1), (12, .getfield 497, 3), (15, .if_icmp .ge 21, 3), (18, .aload_n 0, 1), (19, .getfield 500, 3), (22, .iload_n 1, 1), (23, .aload_n 0, 1), (24, .getfield 461, 3), (27, .iload_n 1, 1), (28, .iaload, 1), (29, .iastore, 1), (30, .iinc 1 1, 3), (33, .goto (-23), 3), (36, .return_, 1)]
set_option maxRecDepth 100000 in
theorem daX16_take : dk_all cX16_take drX16_take = true := by decide +kernel
theorem dX16_take_0 : decode cX16_take 0 = .ok (.aload_n 0, 1) := dk_get daX16_take 0 (r := (0, .aload_n 0, 1)) rfl
theorem dX16_take_1 : decode cX16_take 1 = .ok (.aload_n 0, 1) := dk_get daX16_take 1 (r := (1, .aload_n 0, 1)) rfl
theorem dX16_take_2 : decode cX16_take 2 = .ok (.getfield 464, 3) := dk_get daX16_take 2 (r := (2, .getfield 464, 3)) rfl
theorem dX16_take_5 : decode cX16_take 5 = .ok (.putfield 497, 3) := dk_get daX16_take 3 (r := (5, .putfield 497, 3)) rfl
theorem dX16_take_8 : decode cX16_take 8 = .ok (.iconst 0, 1) := dk_get daX16_take 4 (r := (8, .iconst 0, 1)) rfl
theorem dX16_take_9 : decode cX16_take 9 = .ok (.istore_n 1, 1) := dk_get daX16_take 5 (r := (9, .istore_n 1, 1)) rfl
theorem dX16_take_10 : decode cX16_take 10 = .ok (.iload_n 1, 1) := dk_get daX16_take 6 (r := (10, .iload_n 1, 1)) rfl
theorem dX16_take_11 : decode cX16_take 11 = .ok (.aload_n 0, 1) := dk_get daX16_take 7 (r := (11, .aload_n 0, 1)) rfl
theorem dX16_take_12 : decode cX16_take 12 = .ok (.getfield 497, 3) := dk_get daX16_take 8 (r := (12, .getfield 497, 3)) rfl
theorem dX16_take_15 : decode cX16_take 15 = .ok (.if_icmp .ge 21, 3) := dk_get daX16_take 9 (r := (15, .if_icmp .ge 21, 3)) rfl
theorem dX16_take_18 : decode cX16_take 18 = .ok (.aload_n 0, 1) := dk_get daX16_take 10 (r := (18, .aload_n 0, 1)) rfl
theorem dX16_take_19 : decode cX16_take 19 = .ok (.getfield 500, 3) := dk_get daX16_take 11 (r := (19, .getfield 500, 3)) rfl
theorem dX16_take_22 : decode cX16_take 22 = .ok (.iload_n 1, 1) := dk_get daX16_take 12 (r := (22, .iload_n 1, 1)) rfl
theorem dX16_take_23 : decode cX16_take 23 = .ok (.aload_n 0, 1) := dk_get daX16_take 13 (r := (23, .aload_n 0, 1)) rfl
theorem dX16_take_24 : decode cX16_take 24 = .ok (.getfield 461, 3) := dk_get daX16_take 14 (r := (24, .getfield 461, 3)) rfl
theorem dX16_take_27 : decode cX16_take 27 = .ok (.iload_n 1, 1) := dk_get daX16_take 15 (r := (27, .iload_n 1, 1)) rfl
theorem dX16_take_28 : decode cX16_take 28 = .ok (.iaload, 1) := dk_get daX16_take 16 (r := (28, .iaload, 1)) rfl
theorem dX16_take_29 : decode cX16_take 29 = .ok (.iastore, 1) := dk_get daX16_take 17 (r := (29, .iastore, 1)) rfl
theorem dX16_take_30 : decode cX16_take 30 = .ok (.iinc 1 1, 3) := dk_get daX16_take 18 (r := (30, .iinc 1 1, 3)) rfl
theorem dX16_take_33 : decode cX16_take 33 = .ok (.goto (-23), 3) := dk_get daX16_take 19 (r := (33, .goto (-23), 3)) rfl
theorem dX16_take_36 : decode cX16_take 36 = .ok (.return_, 1) := dk_get daX16_take 20 (r := (36, .return_, 1)) rfl
abbrev mX16_keep : ks_M := (RX16, cX16_keep, 6, none, "keep")
def drX16_keep : List (Nat × Instr × Nat) := [(0, .aload_n 0, 1), (1, .getfield 347, 3), (4, .aload_n 0, 1), (5, .getfield 403, 3), (8, .aaload, 1), (9, .ifnonnull 19, 3), (12, .aload_n 0, 1), (13, .getfield 347, 3), (16, .aload_n 0, 1), (17, .getfield 403, 3), (20, .new 352, 3), (23, .dup, 1), (24, .invokespecial 503, 3), (27, .aastore, 1), (28, .aload_n 0, 1), (29, .getfield 347, 3), (32, .aload_n 0, 1), (33, .getfield 403, 3), (36, .aaload, 1), (37, .astore 4, 2), (39, .iconst 0, 1), (40, .istore 5, 2), (42, .iload 5, 2), (44, .iload_n 2, 1), (45, .if_icmp .ge 21, 3), (48, .aload 4, 2), (50, .getfield 351, 3), (53, .iload 5, 2), (55, .aload_n 1, 1), (56, .iload 5, 2), (58, .baload, 1), (59, .bastore, 1), (60, .iinc 5 1, 3), (63, .goto (-21), 3), (66, .aload 4, 2), (68, .iload_n 2, 1), (69, .putfield 507, 3), (72, .aload_n 0, 1), (73, .aload 4, 2), (75, .getfield 351, 3), (78, .iload_n 2, 1), (79, .aload 4, 2), (81, .getfield 457, 3), (84, .invokevirtual 510, 3), (87, .pop, 1), (88, .aload_n 0, 1), (89, .aload 4, 2), (91, .getfield 351, 3), (94, .iconst 0, 1), (95, .bipush 80, 2), (97, .aload 4, 2), (99, .getfield 406, 3), (102, .iconst 0, 1), (103, .invokevirtual 319, 3), (106, .aload 4, 2), (108, .iload_n 3, 1), (109, .putfield 354, 3), (112, .aload 4, 2), (114, .iload_n 3, 1), (115, .ifCond .ge 7, 3), (118, .iconst 0, 1), (119, .goto 14, 3), (122, .aload_n 0, 1), (123, .getfield 347, 3), (126, .iload_n 3, 1), (127, .aaload, 1), (128, .getfield 363, 3), (131, .iconst 1, 1), (132, .iadd, 1), (133, .putfield 363, 3), (136, .aload 4, 2), (138, .iconst 0, 1), (139, .putfield 432, 3), (142, .aload 4, 2), (144, .iconst 0, 1), (145, .putfield 474, 3), (148, .aload_n 0, 1), (149, .aload 4, 2), (151, .getfield 351, 3), (154, .bipush 72, 2), (156, .iconst 4, 1), (157, .invokevirtual 267, 3), (160, .l2i, 1), (161, .aload_n 0, 1), (162, .getfield 514, 3), (165, .invokestatic 376, 3), (168, .pop, 1), (169, .aload_n 0, 1), (170, .aload_n 0, 1), (171, .getfield 514, 3), (174, .aload 4, 2), (176, .getfield 517, 3), (179, .invokevirtual 519, 3), (182, .iload_n 3, 1), (183, .ifCond .lt 26, 3), (186, .aload 4, 2), (188, .getfield 517, 3), (191, .aload_n 0, 1), (192, .getfield 347, 3), (195, .iload_n 3, 1), (196, .aaload, 1), (197, .getfield 517, 3), (200, .aload 4, 2), (202, .getfield 517, 3), (205, .invokestatic 345, 3), (208, .pop2, 1), (209, .aload_n 0, 1), (210, .dup, 1), (211, .getfield 403, 3), (214, .iconst 1, 1), (215, .iadd, 1), (216, .putfield 403, 3), (219, .return_, 1)]
set_option maxRecDepth 100000 in
theorem daX16_keep : dk_all cX16_keep drX16_keep = true := by decide +kernel
theorem dX16_keep_0 : decode cX16_keep 0 = .ok (.aload_n 0, 1) := dk_get daX16_keep 0 (r := (0, .aload_n 0, 1)) rfl
theorem dX16_keep_1 : decode cX16_keep 1 = .ok (.getfield 347, 3) := dk_get daX16_keep 1 (r := (1, .getfield 347, 3)) rfl
theorem dX16_keep_4 : decode cX16_keep 4 = .ok (.aload_n 0, 1) := dk_get daX16_keep 2 (r := (4, .aload_n 0, 1)) rfl
theorem dX16_keep_5 : decode cX16_keep 5 = .ok (.getfield 403, 3) := dk_get daX16_keep 3 (r := (5, .getfield 403, 3)) rfl
theorem dX16_keep_8 : decode cX16_keep 8 = .ok (.aaload, 1) := dk_get daX16_keep 4 (r := (8, .aaload, 1)) rfl
theorem dX16_keep_9 : decode cX16_keep 9 = .ok (.ifnonnull 19, 3) := dk_get daX16_keep 5 (r := (9, .ifnonnull 19, 3)) rfl
theorem dX16_keep_12 : decode cX16_keep 12 = .ok (.aload_n 0, 1) := dk_get daX16_keep 6 (r := (12, .aload_n 0, 1)) rfl
theorem dX16_keep_13 : decode cX16_keep 13 = .ok (.getfield 347, 3) := dk_get daX16_keep 7 (r := (13, .getfield 347, 3)) rfl
theorem dX16_keep_16 : decode cX16_keep 16 = .ok (.aload_n 0, 1) := dk_get daX16_keep 8 (r := (16, .aload_n 0, 1)) rfl
theorem dX16_keep_17 : decode cX16_keep 17 = .ok (.getfield 403, 3) := dk_get daX16_keep 9 (r := (17, .getfield 403, 3)) rfl
theorem dX16_keep_20 : decode cX16_keep 20 = .ok (.new 352, 3) := dk_get daX16_keep 10 (r := (20, .new 352, 3)) rfl
theorem dX16_keep_23 : decode cX16_keep 23 = .ok (.dup, 1) := dk_get daX16_keep 11 (r := (23, .dup, 1)) rfl
theorem dX16_keep_24 : decode cX16_keep 24 = .ok (.invokespecial 503, 3) := dk_get daX16_keep 12 (r := (24, .invokespecial 503, 3)) rfl
theorem dX16_keep_27 : decode cX16_keep 27 = .ok (.aastore, 1) := dk_get daX16_keep 13 (r := (27, .aastore, 1)) rfl
theorem dX16_keep_28 : decode cX16_keep 28 = .ok (.aload_n 0, 1) := dk_get daX16_keep 14 (r := (28, .aload_n 0, 1)) rfl
theorem dX16_keep_29 : decode cX16_keep 29 = .ok (.getfield 347, 3) := dk_get daX16_keep 15 (r := (29, .getfield 347, 3)) rfl
theorem dX16_keep_32 : decode cX16_keep 32 = .ok (.aload_n 0, 1) := dk_get daX16_keep 16 (r := (32, .aload_n 0, 1)) rfl
theorem dX16_keep_33 : decode cX16_keep 33 = .ok (.getfield 403, 3) := dk_get daX16_keep 17 (r := (33, .getfield 403, 3)) rfl
theorem dX16_keep_36 : decode cX16_keep 36 = .ok (.aaload, 1) := dk_get daX16_keep 18 (r := (36, .aaload, 1)) rfl
theorem dX16_keep_37 : decode cX16_keep 37 = .ok (.astore 4, 2) := dk_get daX16_keep 19 (r := (37, .astore 4, 2)) rfl
theorem dX16_keep_39 : decode cX16_keep 39 = .ok (.iconst 0, 1) := dk_get daX16_keep 20 (r := (39, .iconst 0, 1)) rfl
theorem dX16_keep_40 : decode cX16_keep 40 = .ok (.istore 5, 2) := dk_get daX16_keep 21 (r := (40, .istore 5, 2)) rfl
theorem dX16_keep_42 : decode cX16_keep 42 = .ok (.iload 5, 2) := dk_get daX16_keep 22 (r := (42, .iload 5, 2)) rfl
theorem dX16_keep_44 : decode cX16_keep 44 = .ok (.iload_n 2, 1) := dk_get daX16_keep 23 (r := (44, .iload_n 2, 1)) rfl
theorem dX16_keep_45 : decode cX16_keep 45 = .ok (.if_icmp .ge 21, 3) := dk_get daX16_keep 24 (r := (45, .if_icmp .ge 21, 3)) rfl
theorem dX16_keep_48 : decode cX16_keep 48 = .ok (.aload 4, 2) := dk_get daX16_keep 25 (r := (48, .aload 4, 2)) rfl
theorem dX16_keep_50 : decode cX16_keep 50 = .ok (.getfield 351, 3) := dk_get daX16_keep 26 (r := (50, .getfield 351, 3)) rfl
theorem dX16_keep_53 : decode cX16_keep 53 = .ok (.iload 5, 2) := dk_get daX16_keep 27 (r := (53, .iload 5, 2)) rfl
theorem dX16_keep_55 : decode cX16_keep 55 = .ok (.aload_n 1, 1) := dk_get daX16_keep 28 (r := (55, .aload_n 1, 1)) rfl
theorem dX16_keep_56 : decode cX16_keep 56 = .ok (.iload 5, 2) := dk_get daX16_keep 29 (r := (56, .iload 5, 2)) rfl
theorem dX16_keep_58 : decode cX16_keep 58 = .ok (.baload, 1) := dk_get daX16_keep 30 (r := (58, .baload, 1)) rfl
theorem dX16_keep_59 : decode cX16_keep 59 = .ok (.bastore, 1) := dk_get daX16_keep 31 (r := (59, .bastore, 1)) rfl
theorem dX16_keep_60 : decode cX16_keep 60 = .ok (.iinc 5 1, 3) := dk_get daX16_keep 32 (r := (60, .iinc 5 1, 3)) rfl
theorem dX16_keep_63 : decode cX16_keep 63 = .ok (.goto (-21), 3) := dk_get daX16_keep 33 (r := (63, .goto (-21), 3)) rfl
theorem dX16_keep_66 : decode cX16_keep 66 = .ok (.aload 4, 2) := dk_get daX16_keep 34 (r := (66, .aload 4, 2)) rfl
theorem dX16_keep_68 : decode cX16_keep 68 = .ok (.iload_n 2, 1) := dk_get daX16_keep 35 (r := (68, .iload_n 2, 1)) rfl
theorem dX16_keep_69 : decode cX16_keep 69 = .ok (.putfield 507, 3) := dk_get daX16_keep 36 (r := (69, .putfield 507, 3)) rfl
theorem dX16_keep_72 : decode cX16_keep 72 = .ok (.aload_n 0, 1) := dk_get daX16_keep 37 (r := (72, .aload_n 0, 1)) rfl
theorem dX16_keep_73 : decode cX16_keep 73 = .ok (.aload 4, 2) := dk_get daX16_keep 38 (r := (73, .aload 4, 2)) rfl
theorem dX16_keep_75 : decode cX16_keep 75 = .ok (.getfield 351, 3) := dk_get daX16_keep 39 (r := (75, .getfield 351, 3)) rfl
theorem dX16_keep_78 : decode cX16_keep 78 = .ok (.iload_n 2, 1) := dk_get daX16_keep 40 (r := (78, .iload_n 2, 1)) rfl
theorem dX16_keep_79 : decode cX16_keep 79 = .ok (.aload 4, 2) := dk_get daX16_keep 41 (r := (79, .aload 4, 2)) rfl
theorem dX16_keep_81 : decode cX16_keep 81 = .ok (.getfield 457, 3) := dk_get daX16_keep 42 (r := (81, .getfield 457, 3)) rfl
theorem dX16_keep_84 : decode cX16_keep 84 = .ok (.invokevirtual 510, 3) := dk_get daX16_keep 43 (r := (84, .invokevirtual 510, 3)) rfl
theorem dX16_keep_87 : decode cX16_keep 87 = .ok (.pop, 1) := dk_get daX16_keep 44 (r := (87, .pop, 1)) rfl
theorem dX16_keep_88 : decode cX16_keep 88 = .ok (.aload_n 0, 1) := dk_get daX16_keep 45 (r := (88, .aload_n 0, 1)) rfl
theorem dX16_keep_89 : decode cX16_keep 89 = .ok (.aload 4, 2) := dk_get daX16_keep 46 (r := (89, .aload 4, 2)) rfl
theorem dX16_keep_91 : decode cX16_keep 91 = .ok (.getfield 351, 3) := dk_get daX16_keep 47 (r := (91, .getfield 351, 3)) rfl
theorem dX16_keep_94 : decode cX16_keep 94 = .ok (.iconst 0, 1) := dk_get daX16_keep 48 (r := (94, .iconst 0, 1)) rfl
theorem dX16_keep_95 : decode cX16_keep 95 = .ok (.bipush 80, 2) := dk_get daX16_keep 49 (r := (95, .bipush 80, 2)) rfl
theorem dX16_keep_97 : decode cX16_keep 97 = .ok (.aload 4, 2) := dk_get daX16_keep 50 (r := (97, .aload 4, 2)) rfl
theorem dX16_keep_99 : decode cX16_keep 99 = .ok (.getfield 406, 3) := dk_get daX16_keep 51 (r := (99, .getfield 406, 3)) rfl
theorem dX16_keep_102 : decode cX16_keep 102 = .ok (.iconst 0, 1) := dk_get daX16_keep 52 (r := (102, .iconst 0, 1)) rfl
theorem dX16_keep_103 : decode cX16_keep 103 = .ok (.invokevirtual 319, 3) := dk_get daX16_keep 53 (r := (103, .invokevirtual 319, 3)) rfl
theorem dX16_keep_106 : decode cX16_keep 106 = .ok (.aload 4, 2) := dk_get daX16_keep 54 (r := (106, .aload 4, 2)) rfl
theorem dX16_keep_108 : decode cX16_keep 108 = .ok (.iload_n 3, 1) := dk_get daX16_keep 55 (r := (108, .iload_n 3, 1)) rfl
theorem dX16_keep_109 : decode cX16_keep 109 = .ok (.putfield 354, 3) := dk_get daX16_keep 56 (r := (109, .putfield 354, 3)) rfl
theorem dX16_keep_112 : decode cX16_keep 112 = .ok (.aload 4, 2) := dk_get daX16_keep 57 (r := (112, .aload 4, 2)) rfl
theorem dX16_keep_114 : decode cX16_keep 114 = .ok (.iload_n 3, 1) := dk_get daX16_keep 58 (r := (114, .iload_n 3, 1)) rfl
theorem dX16_keep_115 : decode cX16_keep 115 = .ok (.ifCond .ge 7, 3) := dk_get daX16_keep 59 (r := (115, .ifCond .ge 7, 3)) rfl
theorem dX16_keep_118 : decode cX16_keep 118 = .ok (.iconst 0, 1) := dk_get daX16_keep 60 (r := (118, .iconst 0, 1)) rfl
theorem dX16_keep_119 : decode cX16_keep 119 = .ok (.goto 14, 3) := dk_get daX16_keep 61 (r := (119, .goto 14, 3)) rfl
theorem dX16_keep_122 : decode cX16_keep 122 = .ok (.aload_n 0, 1) := dk_get daX16_keep 62 (r := (122, .aload_n 0, 1)) rfl
theorem dX16_keep_123 : decode cX16_keep 123 = .ok (.getfield 347, 3) := dk_get daX16_keep 63 (r := (123, .getfield 347, 3)) rfl
theorem dX16_keep_126 : decode cX16_keep 126 = .ok (.iload_n 3, 1) := dk_get daX16_keep 64 (r := (126, .iload_n 3, 1)) rfl
theorem dX16_keep_127 : decode cX16_keep 127 = .ok (.aaload, 1) := dk_get daX16_keep 65 (r := (127, .aaload, 1)) rfl
theorem dX16_keep_128 : decode cX16_keep 128 = .ok (.getfield 363, 3) := dk_get daX16_keep 66 (r := (128, .getfield 363, 3)) rfl
theorem dX16_keep_131 : decode cX16_keep 131 = .ok (.iconst 1, 1) := dk_get daX16_keep 67 (r := (131, .iconst 1, 1)) rfl
theorem dX16_keep_132 : decode cX16_keep 132 = .ok (.iadd, 1) := dk_get daX16_keep 68 (r := (132, .iadd, 1)) rfl
theorem dX16_keep_133 : decode cX16_keep 133 = .ok (.putfield 363, 3) := dk_get daX16_keep 69 (r := (133, .putfield 363, 3)) rfl
theorem dX16_keep_136 : decode cX16_keep 136 = .ok (.aload 4, 2) := dk_get daX16_keep 70 (r := (136, .aload 4, 2)) rfl
theorem dX16_keep_138 : decode cX16_keep 138 = .ok (.iconst 0, 1) := dk_get daX16_keep 71 (r := (138, .iconst 0, 1)) rfl
theorem dX16_keep_139 : decode cX16_keep 139 = .ok (.putfield 432, 3) := dk_get daX16_keep 72 (r := (139, .putfield 432, 3)) rfl
theorem dX16_keep_142 : decode cX16_keep 142 = .ok (.aload 4, 2) := dk_get daX16_keep 73 (r := (142, .aload 4, 2)) rfl
theorem dX16_keep_144 : decode cX16_keep 144 = .ok (.iconst 0, 1) := dk_get daX16_keep 74 (r := (144, .iconst 0, 1)) rfl
theorem dX16_keep_145 : decode cX16_keep 145 = .ok (.putfield 474, 3) := dk_get daX16_keep 75 (r := (145, .putfield 474, 3)) rfl
theorem dX16_keep_148 : decode cX16_keep 148 = .ok (.aload_n 0, 1) := dk_get daX16_keep 76 (r := (148, .aload_n 0, 1)) rfl
theorem dX16_keep_149 : decode cX16_keep 149 = .ok (.aload 4, 2) := dk_get daX16_keep 77 (r := (149, .aload 4, 2)) rfl
theorem dX16_keep_151 : decode cX16_keep 151 = .ok (.getfield 351, 3) := dk_get daX16_keep 78 (r := (151, .getfield 351, 3)) rfl
theorem dX16_keep_154 : decode cX16_keep 154 = .ok (.bipush 72, 2) := dk_get daX16_keep 79 (r := (154, .bipush 72, 2)) rfl
theorem dX16_keep_156 : decode cX16_keep 156 = .ok (.iconst 4, 1) := dk_get daX16_keep 80 (r := (156, .iconst 4, 1)) rfl
theorem dX16_keep_157 : decode cX16_keep 157 = .ok (.invokevirtual 267, 3) := dk_get daX16_keep 81 (r := (157, .invokevirtual 267, 3)) rfl
theorem dX16_keep_160 : decode cX16_keep 160 = .ok (.l2i, 1) := dk_get daX16_keep 82 (r := (160, .l2i, 1)) rfl
theorem dX16_keep_161 : decode cX16_keep 161 = .ok (.aload_n 0, 1) := dk_get daX16_keep 83 (r := (161, .aload_n 0, 1)) rfl
theorem dX16_keep_162 : decode cX16_keep 162 = .ok (.getfield 514, 3) := dk_get daX16_keep 84 (r := (162, .getfield 514, 3)) rfl
theorem dX16_keep_165 : decode cX16_keep 165 = .ok (.invokestatic 376, 3) := dk_get daX16_keep 85 (r := (165, .invokestatic 376, 3)) rfl
theorem dX16_keep_168 : decode cX16_keep 168 = .ok (.pop, 1) := dk_get daX16_keep 86 (r := (168, .pop, 1)) rfl
theorem dX16_keep_169 : decode cX16_keep 169 = .ok (.aload_n 0, 1) := dk_get daX16_keep 87 (r := (169, .aload_n 0, 1)) rfl
theorem dX16_keep_170 : decode cX16_keep 170 = .ok (.aload_n 0, 1) := dk_get daX16_keep 88 (r := (170, .aload_n 0, 1)) rfl
theorem dX16_keep_171 : decode cX16_keep 171 = .ok (.getfield 514, 3) := dk_get daX16_keep 89 (r := (171, .getfield 514, 3)) rfl
theorem dX16_keep_174 : decode cX16_keep 174 = .ok (.aload 4, 2) := dk_get daX16_keep 90 (r := (174, .aload 4, 2)) rfl
theorem dX16_keep_176 : decode cX16_keep 176 = .ok (.getfield 517, 3) := dk_get daX16_keep 91 (r := (176, .getfield 517, 3)) rfl
theorem dX16_keep_179 : decode cX16_keep 179 = .ok (.invokevirtual 519, 3) := dk_get daX16_keep 92 (r := (179, .invokevirtual 519, 3)) rfl
theorem dX16_keep_182 : decode cX16_keep 182 = .ok (.iload_n 3, 1) := dk_get daX16_keep 93 (r := (182, .iload_n 3, 1)) rfl
theorem dX16_keep_183 : decode cX16_keep 183 = .ok (.ifCond .lt 26, 3) := dk_get daX16_keep 94 (r := (183, .ifCond .lt 26, 3)) rfl
theorem dX16_keep_186 : decode cX16_keep 186 = .ok (.aload 4, 2) := dk_get daX16_keep 95 (r := (186, .aload 4, 2)) rfl
theorem dX16_keep_188 : decode cX16_keep 188 = .ok (.getfield 517, 3) := dk_get daX16_keep 96 (r := (188, .getfield 517, 3)) rfl
theorem dX16_keep_191 : decode cX16_keep 191 = .ok (.aload_n 0, 1) := dk_get daX16_keep 97 (r := (191, .aload_n 0, 1)) rfl
theorem dX16_keep_192 : decode cX16_keep 192 = .ok (.getfield 347, 3) := dk_get daX16_keep 98 (r := (192, .getfield 347, 3)) rfl
theorem dX16_keep_195 : decode cX16_keep 195 = .ok (.iload_n 3, 1) := dk_get daX16_keep 99 (r := (195, .iload_n 3, 1)) rfl
theorem dX16_keep_196 : decode cX16_keep 196 = .ok (.aaload, 1) := dk_get daX16_keep 100 (r := (196, .aaload, 1)) rfl
theorem dX16_keep_197 : decode cX16_keep 197 = .ok (.getfield 517, 3) := dk_get daX16_keep 101 (r := (197, .getfield 517, 3)) rfl
theorem dX16_keep_200 : decode cX16_keep 200 = .ok (.aload 4, 2) := dk_get daX16_keep 102 (r := (200, .aload 4, 2)) rfl
theorem dX16_keep_202 : decode cX16_keep 202 = .ok (.getfield 517, 3) := dk_get daX16_keep 103 (r := (202, .getfield 517, 3)) rfl
theorem dX16_keep_205 : decode cX16_keep 205 = .ok (.invokestatic 345, 3) := dk_get daX16_keep 104 (r := (205, .invokestatic 345, 3)) rfl
theorem dX16_keep_208 : decode cX16_keep 208 = .ok (.pop2, 1) := dk_get daX16_keep 105 (r := (208, .pop2, 1)) rfl
theorem dX16_keep_209 : decode cX16_keep 209 = .ok (.aload_n 0, 1) := dk_get daX16_keep 106 (r := (209, .aload_n 0, 1)) rfl
theorem dX16_keep_210 : decode cX16_keep 210 = .ok (.dup, 1) := dk_get daX16_keep 107 (r := (210, .dup, 1)) rfl
theorem dX16_keep_211 : decode cX16_keep 211 = .ok (.getfield 403, 3) := dk_get daX16_keep 108 (r := (211, .getfield 403, 3)) rfl
theorem dX16_keep_214 : decode cX16_keep 214 = .ok (.iconst 1, 1) := dk_get daX16_keep 109 (r := (214, .iconst 1, 1)) rfl
theorem dX16_keep_215 : decode cX16_keep 215 = .ok (.iadd, 1) := dk_get daX16_keep 110 (r := (215, .iadd, 1)) rfl
theorem dX16_keep_216 : decode cX16_keep 216 = .ok (.putfield 403, 3) := dk_get daX16_keep 111 (r := (216, .putfield 403, 3)) rfl
theorem dX16_keep_219 : decode cX16_keep 219 = .ok (.return_, 1) := dk_get daX16_keep 112 (r := (219, .return_, 1)) rfl
abbrev mX16_row : ks_M := (RX16, cX16_row, 2, (some (.array .byte)), "row")
def drX16_row : List (Nat × Instr × Nat) := [(0, .aload_n 0, 1), (1, .iload_n 1, 1), (2, .aaload, 1), (3, .ifnonnull 11, 3), (6, .aload_n 0, 1), (7, .iload_n 1, 1), (8, .sipush 520, 3), (11, .newarray .byte, 2), (13, .aastore, 1), (14, .aload_n 0, 1), (15, .iload_n 1, 1), (16, .aaload, 1), (17, .areturn, 1)]
set_option maxRecDepth 100000 in
theorem daX16_row : dk_all cX16_row drX16_row = true := by decide +kernel
theorem dX16_row_0 : decode cX16_row 0 = .ok (.aload_n 0, 1) := dk_get daX16_row 0 (r := (0, .aload_n 0, 1)) rfl
theorem dX16_row_1 : decode cX16_row 1 = .ok (.iload_n 1, 1) := dk_get daX16_row 1 (r := (1, .iload_n 1, 1)) rfl
theorem dX16_row_2 : decode cX16_row 2 = .ok (.aaload, 1) := dk_get daX16_row 2 (r := (2, .aaload, 1)) rfl
theorem dX16_row_3 : decode cX16_row 3 = .ok (.ifnonnull 11, 3) := dk_get daX16_row 3 (r := (3, .ifnonnull 11, 3)) rfl
theorem dX16_row_6 : decode cX16_row 6 = .ok (.aload_n 0, 1) := dk_get daX16_row 4 (r := (6, .aload_n 0, 1)) rfl
theorem dX16_row_7 : decode cX16_row 7 = .ok (.iload_n 1, 1) := dk_get daX16_row 5 (r := (7, .iload_n 1, 1)) rfl
theorem dX16_row_8 : decode cX16_row 8 = .ok (.sipush 520, 3) := dk_get daX16_row 6 (r := (8, .sipush 520, 3)) rfl
theorem dX16_row_11 : decode cX16_row 11 = .ok (.newarray .byte, 2) := dk_get daX16_row 7 (r := (11, .newarray .byte, 2)) rfl
theorem dX16_row_13 : decode cX16_row 13 = .ok (.aastore, 1) := dk_get daX16_row 8 (r := (13, .aastore, 1)) rfl
theorem dX16_row_14 : decode cX16_row 14 = .ok (.aload_n 0, 1) := dk_get daX16_row 9 (r := (14, .aload_n 0, 1)) rfl
theorem dX16_row_15 : decode cX16_row 15 = .ok (.iload_n 1, 1) := dk_get daX16_row 10 (r := (15, .iload_n 1, 1)) rfl
theorem dX16_row_16 : decode cX16_row 16 = .ok (.aaload, 1) := dk_get daX16_row 11 (r := (16, .aaload, 1)) rfl
theorem dX16_row_17 : decode cX16_row 17 = .ok (.areturn, 1) := dk_get daX16_row 12 (r := (17, .areturn, 1)) rfl
abbrev mX16_push : ks_M := (RX16, cX16_push, 6, none, "push")
def drX16_push : List (Nat × Instr × Nat) := [(0, .iload_n 3, 1), (1, .sipush 520, 3), (4, .if_icmp .gt 13, 3), (7, .aload_n 0, 1), (8, .getfield 521, 3), (11, .sipush 1000, 3), (14, .if_icmp .le 9, 3), (17, .aload_n 0, 1), (18, .iconst 1, 1), (19, .putfield 524, 3), (22, .return_, 1), (23, .aload_n 0, 1), (24, .getfield 527, 3), (27, .aload_n 0, 1), (28, .getfield 521, 3), (31, .invokestatic 531, 3), (34, .astore 4, 2), (36, .iconst 0, 1), (37, .istore 5, 2), (39, .iload 5, 2), (41, .iload_n 3, 1), (42, .if_icmp .ge 20, 3), (45, .aload 4, 2), (47, .iload 5, 2), (49, .aload_n 1, 1), (50, .iload_n 2, 1), (51, .iload 5, 2), (53, .iadd, 1), (54, .baload, 1), (55, .bastore, 1), (56, .iinc 5 1, 3), (59, .goto (-20), 3), (62, .aload_n 0, 1), (63, .getfield 535, 3), (66, .aload_n 0, 1), (67, .getfield 521, 3), (70, .iload_n 3, 1), (71, .iastore, 1), (72, .aload_n 0, 1), (73, .dup, 1), (74, .getfield 521, 3), (77, .iconst 1, 1), (78, .iadd, 1), (79, .putfield 521, 3), (82, .return_, 1)]
set_option maxRecDepth 100000 in
theorem daX16_push : dk_all cX16_push drX16_push = true := by decide +kernel
theorem dX16_push_0 : decode cX16_push 0 = .ok (.iload_n 3, 1) := dk_get daX16_push 0 (r := (0, .iload_n 3, 1)) rfl
theorem dX16_push_1 : decode cX16_push 1 = .ok (.sipush 520, 3) := dk_get daX16_push 1 (r := (1, .sipush 520, 3)) rfl
theorem dX16_push_4 : decode cX16_push 4 = .ok (.if_icmp .gt 13, 3) := dk_get daX16_push 2 (r := (4, .if_icmp .gt 13, 3)) rfl
theorem dX16_push_7 : decode cX16_push 7 = .ok (.aload_n 0, 1) := dk_get daX16_push 3 (r := (7, .aload_n 0, 1)) rfl
theorem dX16_push_8 : decode cX16_push 8 = .ok (.getfield 521, 3) := dk_get daX16_push 4 (r := (8, .getfield 521, 3)) rfl
theorem dX16_push_11 : decode cX16_push 11 = .ok (.sipush 1000, 3) := dk_get daX16_push 5 (r := (11, .sipush 1000, 3)) rfl
theorem dX16_push_14 : decode cX16_push 14 = .ok (.if_icmp .le 9, 3) := dk_get daX16_push 6 (r := (14, .if_icmp .le 9, 3)) rfl
theorem dX16_push_17 : decode cX16_push 17 = .ok (.aload_n 0, 1) := dk_get daX16_push 7 (r := (17, .aload_n 0, 1)) rfl
theorem dX16_push_18 : decode cX16_push 18 = .ok (.iconst 1, 1) := dk_get daX16_push 8 (r := (18, .iconst 1, 1)) rfl
theorem dX16_push_19 : decode cX16_push 19 = .ok (.putfield 524, 3) := dk_get daX16_push 9 (r := (19, .putfield 524, 3)) rfl
theorem dX16_push_22 : decode cX16_push 22 = .ok (.return_, 1) := dk_get daX16_push 10 (r := (22, .return_, 1)) rfl
theorem dX16_push_23 : decode cX16_push 23 = .ok (.aload_n 0, 1) := dk_get daX16_push 11 (r := (23, .aload_n 0, 1)) rfl
theorem dX16_push_24 : decode cX16_push 24 = .ok (.getfield 527, 3) := dk_get daX16_push 12 (r := (24, .getfield 527, 3)) rfl
theorem dX16_push_27 : decode cX16_push 27 = .ok (.aload_n 0, 1) := dk_get daX16_push 13 (r := (27, .aload_n 0, 1)) rfl
theorem dX16_push_28 : decode cX16_push 28 = .ok (.getfield 521, 3) := dk_get daX16_push 14 (r := (28, .getfield 521, 3)) rfl
theorem dX16_push_31 : decode cX16_push 31 = .ok (.invokestatic 531, 3) := dk_get daX16_push 15 (r := (31, .invokestatic 531, 3)) rfl
theorem dX16_push_34 : decode cX16_push 34 = .ok (.astore 4, 2) := dk_get daX16_push 16 (r := (34, .astore 4, 2)) rfl
theorem dX16_push_36 : decode cX16_push 36 = .ok (.iconst 0, 1) := dk_get daX16_push 17 (r := (36, .iconst 0, 1)) rfl
theorem dX16_push_37 : decode cX16_push 37 = .ok (.istore 5, 2) := dk_get daX16_push 18 (r := (37, .istore 5, 2)) rfl
theorem dX16_push_39 : decode cX16_push 39 = .ok (.iload 5, 2) := dk_get daX16_push 19 (r := (39, .iload 5, 2)) rfl
theorem dX16_push_41 : decode cX16_push 41 = .ok (.iload_n 3, 1) := dk_get daX16_push 20 (r := (41, .iload_n 3, 1)) rfl
theorem dX16_push_42 : decode cX16_push 42 = .ok (.if_icmp .ge 20, 3) := dk_get daX16_push 21 (r := (42, .if_icmp .ge 20, 3)) rfl
theorem dX16_push_45 : decode cX16_push 45 = .ok (.aload 4, 2) := dk_get daX16_push 22 (r := (45, .aload 4, 2)) rfl
theorem dX16_push_47 : decode cX16_push 47 = .ok (.iload 5, 2) := dk_get daX16_push 23 (r := (47, .iload 5, 2)) rfl
theorem dX16_push_49 : decode cX16_push 49 = .ok (.aload_n 1, 1) := dk_get daX16_push 24 (r := (49, .aload_n 1, 1)) rfl
theorem dX16_push_50 : decode cX16_push 50 = .ok (.iload_n 2, 1) := dk_get daX16_push 25 (r := (50, .iload_n 2, 1)) rfl
theorem dX16_push_51 : decode cX16_push 51 = .ok (.iload 5, 2) := dk_get daX16_push 26 (r := (51, .iload 5, 2)) rfl
theorem dX16_push_53 : decode cX16_push 53 = .ok (.iadd, 1) := dk_get daX16_push 27 (r := (53, .iadd, 1)) rfl
theorem dX16_push_54 : decode cX16_push 54 = .ok (.baload, 1) := dk_get daX16_push 28 (r := (54, .baload, 1)) rfl
theorem dX16_push_55 : decode cX16_push 55 = .ok (.bastore, 1) := dk_get daX16_push 29 (r := (55, .bastore, 1)) rfl
theorem dX16_push_56 : decode cX16_push 56 = .ok (.iinc 5 1, 3) := dk_get daX16_push 30 (r := (56, .iinc 5 1, 3)) rfl
theorem dX16_push_59 : decode cX16_push 59 = .ok (.goto (-20), 3) := dk_get daX16_push 31 (r := (59, .goto (-20), 3)) rfl
theorem dX16_push_62 : decode cX16_push 62 = .ok (.aload_n 0, 1) := dk_get daX16_push 32 (r := (62, .aload_n 0, 1)) rfl
theorem dX16_push_63 : decode cX16_push 63 = .ok (.getfield 535, 3) := dk_get daX16_push 33 (r := (63, .getfield 535, 3)) rfl
theorem dX16_push_66 : decode cX16_push 66 = .ok (.aload_n 0, 1) := dk_get daX16_push 34 (r := (66, .aload_n 0, 1)) rfl
theorem dX16_push_67 : decode cX16_push 67 = .ok (.getfield 521, 3) := dk_get daX16_push 35 (r := (67, .getfield 521, 3)) rfl
theorem dX16_push_70 : decode cX16_push 70 = .ok (.iload_n 3, 1) := dk_get daX16_push 36 (r := (70, .iload_n 3, 1)) rfl
theorem dX16_push_71 : decode cX16_push 71 = .ok (.iastore, 1) := dk_get daX16_push 37 (r := (71, .iastore, 1)) rfl
theorem dX16_push_72 : decode cX16_push 72 = .ok (.aload_n 0, 1) := dk_get daX16_push 38 (r := (72, .aload_n 0, 1)) rfl
theorem dX16_push_73 : decode cX16_push 73 = .ok (.dup, 1) := dk_get daX16_push 39 (r := (73, .dup, 1)) rfl
theorem dX16_push_74 : decode cX16_push 74 = .ok (.getfield 521, 3) := dk_get daX16_push 40 (r := (74, .getfield 521, 3)) rfl
theorem dX16_push_77 : decode cX16_push 77 = .ok (.iconst 1, 1) := dk_get daX16_push 41 (r := (77, .iconst 1, 1)) rfl
theorem dX16_push_78 : decode cX16_push 78 = .ok (.iadd, 1) := dk_get daX16_push 42 (r := (78, .iadd, 1)) rfl
theorem dX16_push_79 : decode cX16_push 79 = .ok (.putfield 521, 3) := dk_get daX16_push 43 (r := (79, .putfield 521, 3)) rfl
theorem dX16_push_82 : decode cX16_push 82 = .ok (.return_, 1) := dk_get daX16_push 44 (r := (82, .return_, 1)) rfl
abbrev mX16_copy : ks_M := (RX16, cX16_copy, 3, none, "copy")
def drX16_copy : List (Nat × Instr × Nat) := [(0, .aload_n 0, 1), (1, .getfield 521, 3), (4, .iconst 1, 1), (5, .isub, 1), (6, .iload_n 1, 1), (7, .isub, 1), (8, .istore_n 2, 1), (9, .aload_n 0, 1), (10, .aload_n 0, 1), (11, .getfield 527, 3), (14, .iload_n 2, 1), (15, .aaload, 1), (16, .iconst 0, 1), (17, .aload_n 0, 1), (18, .getfield 535, 3), (21, .iload_n 2, 1), (22, .iaload, 1), (23, .invokevirtual 538, 3), (26, .return_, 1)]
set_option maxRecDepth 100000 in
theorem daX16_copy : dk_all cX16_copy drX16_copy = true := by decide +kernel
theorem dX16_copy_0 : decode cX16_copy 0 = .ok (.aload_n 0, 1) := dk_get daX16_copy 0 (r := (0, .aload_n 0, 1)) rfl
theorem dX16_copy_1 : decode cX16_copy 1 = .ok (.getfield 521, 3) := dk_get daX16_copy 1 (r := (1, .getfield 521, 3)) rfl
theorem dX16_copy_4 : decode cX16_copy 4 = .ok (.iconst 1, 1) := dk_get daX16_copy 2 (r := (4, .iconst 1, 1)) rfl
theorem dX16_copy_5 : decode cX16_copy 5 = .ok (.isub, 1) := dk_get daX16_copy 3 (r := (5, .isub, 1)) rfl
theorem dX16_copy_6 : decode cX16_copy 6 = .ok (.iload_n 1, 1) := dk_get daX16_copy 4 (r := (6, .iload_n 1, 1)) rfl
theorem dX16_copy_7 : decode cX16_copy 7 = .ok (.isub, 1) := dk_get daX16_copy 5 (r := (7, .isub, 1)) rfl
theorem dX16_copy_8 : decode cX16_copy 8 = .ok (.istore_n 2, 1) := dk_get daX16_copy 6 (r := (8, .istore_n 2, 1)) rfl
theorem dX16_copy_9 : decode cX16_copy 9 = .ok (.aload_n 0, 1) := dk_get daX16_copy 7 (r := (9, .aload_n 0, 1)) rfl
theorem dX16_copy_10 : decode cX16_copy 10 = .ok (.aload_n 0, 1) := dk_get daX16_copy 8 (r := (10, .aload_n 0, 1)) rfl
theorem dX16_copy_11 : decode cX16_copy 11 = .ok (.getfield 527, 3) := dk_get daX16_copy 9 (r := (11, .getfield 527, 3)) rfl
theorem dX16_copy_14 : decode cX16_copy 14 = .ok (.iload_n 2, 1) := dk_get daX16_copy 10 (r := (14, .iload_n 2, 1)) rfl
theorem dX16_copy_15 : decode cX16_copy 15 = .ok (.aaload, 1) := dk_get daX16_copy 11 (r := (15, .aaload, 1)) rfl
theorem dX16_copy_16 : decode cX16_copy 16 = .ok (.iconst 0, 1) := dk_get daX16_copy 12 (r := (16, .iconst 0, 1)) rfl
theorem dX16_copy_17 : decode cX16_copy 17 = .ok (.aload_n 0, 1) := dk_get daX16_copy 13 (r := (17, .aload_n 0, 1)) rfl
theorem dX16_copy_18 : decode cX16_copy 18 = .ok (.getfield 535, 3) := dk_get daX16_copy 14 (r := (18, .getfield 535, 3)) rfl
theorem dX16_copy_21 : decode cX16_copy 21 = .ok (.iload_n 2, 1) := dk_get daX16_copy 15 (r := (21, .iload_n 2, 1)) rfl
theorem dX16_copy_22 : decode cX16_copy 22 = .ok (.iaload, 1) := dk_get daX16_copy 16 (r := (22, .iaload, 1)) rfl
theorem dX16_copy_23 : decode cX16_copy 23 = .ok (.invokevirtual 538, 3) := dk_get daX16_copy 17 (r := (23, .invokevirtual 538, 3)) rfl
theorem dX16_copy_26 : decode cX16_copy 26 = .ok (.return_, 1) := dk_get daX16_copy 18 (r := (26, .return_, 1)) rfl
abbrev mX16_lift : ks_M := (RX16, cX16_lift, 5, none, "lift")
def drX16_lift : List (Nat × Instr × Nat) := [(0, .aload_n 0, 1), (1, .getfield 521, 3), (4, .iconst 1, 1), (5, .isub, 1), (6, .iload_n 1, 1), (7, .isub, 1), (8, .istore_n 2, 1), (9, .aload_n 0, 1), (10, .getfield 527, 3), (13, .iload_n 2, 1), (14, .aaload, 1), (15, .astore_n 3, 1), (16, .aload_n 0, 1), (17, .getfield 535, 3), (20, .iload_n 2, 1), (21, .iaload, 1), (22, .istore 4, 2), (24, .iload_n 2, 1), (25, .aload_n 0, 1), (26, .getfield 521, 3), (29, .iconst 1, 1), (30, .isub, 1), (31, .if_icmp .ge 37, 3), (34, .aload_n 0, 1), (35, .getfield 527, 3), (38, .iload_n 2, 1), (39, .aload_n 0, 1), (40, .getfield 527, 3), (43, .iload_n 2, 1), (44, .iconst 1, 1), (45, .iadd, 1), (46, .aaload, 1), (47, .aastore, 1), (48, .aload_n 0, 1), (49, .getfield 535, 3), (52, .iload_n 2, 1), (53, .aload_n 0, 1), (54, .getfield 535, 3), (57, .iload_n 2, 1), (58, .iconst 1, 1), (59, .iadd, 1), (60, .iaload, 1), (61, .iastore, 1), (62, .iinc 2 1, 3), (65, .goto (-41), 3), (68, .aload_n 0, 1), (69, .getfield 527, 3), (72, .aload_n 0, 1), (73, .getfield 521, 3), (76, .iconst 1, 1), (77, .isub, 1), (78, .aload_n 3, 1), (79, .aastore, 1), (80, .aload_n 0, 1), (81, .getfield 535, 3), (84, .aload_n 0, 1), (85, .getfield 521, 3), (88, .iconst 1, 1), (89, .isub, 1), (90, .iload 4, 2), (92, .iastore, 1), (93, .return_, 1)]
set_option maxRecDepth 100000 in
theorem daX16_lift : dk_all cX16_lift drX16_lift = true := by decide +kernel
theorem dX16_lift_0 : decode cX16_lift 0 = .ok (.aload_n 0, 1) := dk_get daX16_lift 0 (r := (0, .aload_n 0, 1)) rfl
theorem dX16_lift_1 : decode cX16_lift 1 = .ok (.getfield 521, 3) := dk_get daX16_lift 1 (r := (1, .getfield 521, 3)) rfl
theorem dX16_lift_4 : decode cX16_lift 4 = .ok (.iconst 1, 1) := dk_get daX16_lift 2 (r := (4, .iconst 1, 1)) rfl
theorem dX16_lift_5 : decode cX16_lift 5 = .ok (.isub, 1) := dk_get daX16_lift 3 (r := (5, .isub, 1)) rfl
theorem dX16_lift_6 : decode cX16_lift 6 = .ok (.iload_n 1, 1) := dk_get daX16_lift 4 (r := (6, .iload_n 1, 1)) rfl
theorem dX16_lift_7 : decode cX16_lift 7 = .ok (.isub, 1) := dk_get daX16_lift 5 (r := (7, .isub, 1)) rfl
theorem dX16_lift_8 : decode cX16_lift 8 = .ok (.istore_n 2, 1) := dk_get daX16_lift 6 (r := (8, .istore_n 2, 1)) rfl
theorem dX16_lift_9 : decode cX16_lift 9 = .ok (.aload_n 0, 1) := dk_get daX16_lift 7 (r := (9, .aload_n 0, 1)) rfl
theorem dX16_lift_10 : decode cX16_lift 10 = .ok (.getfield 527, 3) := dk_get daX16_lift 8 (r := (10, .getfield 527, 3)) rfl
theorem dX16_lift_13 : decode cX16_lift 13 = .ok (.iload_n 2, 1) := dk_get daX16_lift 9 (r := (13, .iload_n 2, 1)) rfl
theorem dX16_lift_14 : decode cX16_lift 14 = .ok (.aaload, 1) := dk_get daX16_lift 10 (r := (14, .aaload, 1)) rfl
theorem dX16_lift_15 : decode cX16_lift 15 = .ok (.astore_n 3, 1) := dk_get daX16_lift 11 (r := (15, .astore_n 3, 1)) rfl
theorem dX16_lift_16 : decode cX16_lift 16 = .ok (.aload_n 0, 1) := dk_get daX16_lift 12 (r := (16, .aload_n 0, 1)) rfl
theorem dX16_lift_17 : decode cX16_lift 17 = .ok (.getfield 535, 3) := dk_get daX16_lift 13 (r := (17, .getfield 535, 3)) rfl
theorem dX16_lift_20 : decode cX16_lift 20 = .ok (.iload_n 2, 1) := dk_get daX16_lift 14 (r := (20, .iload_n 2, 1)) rfl
theorem dX16_lift_21 : decode cX16_lift 21 = .ok (.iaload, 1) := dk_get daX16_lift 15 (r := (21, .iaload, 1)) rfl
theorem dX16_lift_22 : decode cX16_lift 22 = .ok (.istore 4, 2) := dk_get daX16_lift 16 (r := (22, .istore 4, 2)) rfl
theorem dX16_lift_24 : decode cX16_lift 24 = .ok (.iload_n 2, 1) := dk_get daX16_lift 17 (r := (24, .iload_n 2, 1)) rfl
theorem dX16_lift_25 : decode cX16_lift 25 = .ok (.aload_n 0, 1) := dk_get daX16_lift 18 (r := (25, .aload_n 0, 1)) rfl
theorem dX16_lift_26 : decode cX16_lift 26 = .ok (.getfield 521, 3) := dk_get daX16_lift 19 (r := (26, .getfield 521, 3)) rfl
theorem dX16_lift_29 : decode cX16_lift 29 = .ok (.iconst 1, 1) := dk_get daX16_lift 20 (r := (29, .iconst 1, 1)) rfl
theorem dX16_lift_30 : decode cX16_lift 30 = .ok (.isub, 1) := dk_get daX16_lift 21 (r := (30, .isub, 1)) rfl
theorem dX16_lift_31 : decode cX16_lift 31 = .ok (.if_icmp .ge 37, 3) := dk_get daX16_lift 22 (r := (31, .if_icmp .ge 37, 3)) rfl
theorem dX16_lift_34 : decode cX16_lift 34 = .ok (.aload_n 0, 1) := dk_get daX16_lift 23 (r := (34, .aload_n 0, 1)) rfl
theorem dX16_lift_35 : decode cX16_lift 35 = .ok (.getfield 527, 3) := dk_get daX16_lift 24 (r := (35, .getfield 527, 3)) rfl
theorem dX16_lift_38 : decode cX16_lift 38 = .ok (.iload_n 2, 1) := dk_get daX16_lift 25 (r := (38, .iload_n 2, 1)) rfl
theorem dX16_lift_39 : decode cX16_lift 39 = .ok (.aload_n 0, 1) := dk_get daX16_lift 26 (r := (39, .aload_n 0, 1)) rfl
theorem dX16_lift_40 : decode cX16_lift 40 = .ok (.getfield 527, 3) := dk_get daX16_lift 27 (r := (40, .getfield 527, 3)) rfl
theorem dX16_lift_43 : decode cX16_lift 43 = .ok (.iload_n 2, 1) := dk_get daX16_lift 28 (r := (43, .iload_n 2, 1)) rfl
theorem dX16_lift_44 : decode cX16_lift 44 = .ok (.iconst 1, 1) := dk_get daX16_lift 29 (r := (44, .iconst 1, 1)) rfl
theorem dX16_lift_45 : decode cX16_lift 45 = .ok (.iadd, 1) := dk_get daX16_lift 30 (r := (45, .iadd, 1)) rfl
theorem dX16_lift_46 : decode cX16_lift 46 = .ok (.aaload, 1) := dk_get daX16_lift 31 (r := (46, .aaload, 1)) rfl
theorem dX16_lift_47 : decode cX16_lift 47 = .ok (.aastore, 1) := dk_get daX16_lift 32 (r := (47, .aastore, 1)) rfl
theorem dX16_lift_48 : decode cX16_lift 48 = .ok (.aload_n 0, 1) := dk_get daX16_lift 33 (r := (48, .aload_n 0, 1)) rfl
theorem dX16_lift_49 : decode cX16_lift 49 = .ok (.getfield 535, 3) := dk_get daX16_lift 34 (r := (49, .getfield 535, 3)) rfl
theorem dX16_lift_52 : decode cX16_lift 52 = .ok (.iload_n 2, 1) := dk_get daX16_lift 35 (r := (52, .iload_n 2, 1)) rfl
theorem dX16_lift_53 : decode cX16_lift 53 = .ok (.aload_n 0, 1) := dk_get daX16_lift 36 (r := (53, .aload_n 0, 1)) rfl
theorem dX16_lift_54 : decode cX16_lift 54 = .ok (.getfield 535, 3) := dk_get daX16_lift 37 (r := (54, .getfield 535, 3)) rfl
theorem dX16_lift_57 : decode cX16_lift 57 = .ok (.iload_n 2, 1) := dk_get daX16_lift 38 (r := (57, .iload_n 2, 1)) rfl
theorem dX16_lift_58 : decode cX16_lift 58 = .ok (.iconst 1, 1) := dk_get daX16_lift 39 (r := (58, .iconst 1, 1)) rfl
theorem dX16_lift_59 : decode cX16_lift 59 = .ok (.iadd, 1) := dk_get daX16_lift 40 (r := (59, .iadd, 1)) rfl
theorem dX16_lift_60 : decode cX16_lift 60 = .ok (.iaload, 1) := dk_get daX16_lift 41 (r := (60, .iaload, 1)) rfl
theorem dX16_lift_61 : decode cX16_lift 61 = .ok (.iastore, 1) := dk_get daX16_lift 42 (r := (61, .iastore, 1)) rfl
theorem dX16_lift_62 : decode cX16_lift 62 = .ok (.iinc 2 1, 3) := dk_get daX16_lift 43 (r := (62, .iinc 2 1, 3)) rfl
theorem dX16_lift_65 : decode cX16_lift 65 = .ok (.goto (-41), 3) := dk_get daX16_lift 44 (r := (65, .goto (-41), 3)) rfl
theorem dX16_lift_68 : decode cX16_lift 68 = .ok (.aload_n 0, 1) := dk_get daX16_lift 45 (r := (68, .aload_n 0, 1)) rfl
theorem dX16_lift_69 : decode cX16_lift 69 = .ok (.getfield 527, 3) := dk_get daX16_lift 46 (r := (69, .getfield 527, 3)) rfl
theorem dX16_lift_72 : decode cX16_lift 72 = .ok (.aload_n 0, 1) := dk_get daX16_lift 47 (r := (72, .aload_n 0, 1)) rfl
theorem dX16_lift_73 : decode cX16_lift 73 = .ok (.getfield 521, 3) := dk_get daX16_lift 48 (r := (73, .getfield 521, 3)) rfl
theorem dX16_lift_76 : decode cX16_lift 76 = .ok (.iconst 1, 1) := dk_get daX16_lift 49 (r := (76, .iconst 1, 1)) rfl
theorem dX16_lift_77 : decode cX16_lift 77 = .ok (.isub, 1) := dk_get daX16_lift 50 (r := (77, .isub, 1)) rfl
theorem dX16_lift_78 : decode cX16_lift 78 = .ok (.aload_n 3, 1) := dk_get daX16_lift 51 (r := (78, .aload_n 3, 1)) rfl
theorem dX16_lift_79 : decode cX16_lift 79 = .ok (.aastore, 1) := dk_get daX16_lift 52 (r := (79, .aastore, 1)) rfl
theorem dX16_lift_80 : decode cX16_lift 80 = .ok (.aload_n 0, 1) := dk_get daX16_lift 53 (r := (80, .aload_n 0, 1)) rfl
theorem dX16_lift_81 : decode cX16_lift 81 = .ok (.getfield 535, 3) := dk_get daX16_lift 54 (r := (81, .getfield 535, 3)) rfl
theorem dX16_lift_84 : decode cX16_lift 84 = .ok (.aload_n 0, 1) := dk_get daX16_lift 55 (r := (84, .aload_n 0, 1)) rfl
theorem dX16_lift_85 : decode cX16_lift 85 = .ok (.getfield 521, 3) := dk_get daX16_lift 56 (r := (85, .getfield 521, 3)) rfl
theorem dX16_lift_88 : decode cX16_lift 88 = .ok (.iconst 1, 1) := dk_get daX16_lift 57 (r := (88, .iconst 1, 1)) rfl
theorem dX16_lift_89 : decode cX16_lift 89 = .ok (.isub, 1) := dk_get daX16_lift 58 (r := (89, .isub, 1)) rfl
theorem dX16_lift_90 : decode cX16_lift 90 = .ok (.iload 4, 2) := dk_get daX16_lift 59 (r := (90, .iload 4, 2)) rfl
theorem dX16_lift_92 : decode cX16_lift 92 = .ok (.iastore, 1) := dk_get daX16_lift 60 (r := (92, .iastore, 1)) rfl
theorem dX16_lift_93 : decode cX16_lift 93 = .ok (.return_, 1) := dk_get daX16_lift 61 (r := (93, .return_, 1)) rfl
abbrev mX16_isTrue : ks_M := (RX16, cX16_isTrue, 4, (some .boolean), "isTrue")
def drX16_isTrue : List (Nat × Instr × Nat) := [(0, .aload_n 0, 1), (1, .getfield 521, 3), (4, .iconst 1, 1), (5, .isub, 1), (6, .iload_n 1, 1), (7, .isub, 1), (8, .istore_n 2, 1), (9, .iconst 0, 1), (10, .istore_n 3, 1), (11, .iload_n 3, 1), (12, .aload_n 0, 1), (13, .getfield 535, 3), (16, .iload_n 2, 1), (17, .iaload, 1), (18, .if_icmp .ge 51, 3), (21, .aload_n 0, 1), (22, .getfield 527, 3), (25, .iload_n 2, 1), (26, .aaload, 1), (27, .iload_n 3, 1), (28, .baload, 1), (29, .ifCond .eq 34, 3), (32, .iload_n 3, 1), (33, .aload_n 0, 1), (34, .getfield 535, 3), (37, .iload_n 2, 1), (38, .iaload, 1), (39, .iconst 1, 1), (40, .isub, 1), (41, .if_icmp .lt 16, 3), (44, .aload_n 0, 1), (45, .getfield 527, 3), (48, .iload_n 2, 1), (49, .aaload, 1), (50, .iload_n 3, 1), (51, .baload, 1), (52, .bipush (-128), 2), (54, .if_icmp .eq 7, 3), (57, .iconst 1, 1), (58, .goto 4, 3), (61, .iconst 0, 1), (62, .ireturn, 1), (63, .iinc 3 1, 3), (66, .goto (-55), 3), (69, .iconst 0, 1), (70, .ireturn, 1)]
set_option maxRecDepth 100000 in
theorem daX16_isTrue : dk_all cX16_isTrue drX16_isTrue = true := by decide +kernel
theorem dX16_isTrue_0 : decode cX16_isTrue 0 = .ok (.aload_n 0, 1) := dk_get daX16_isTrue 0 (r := (0, .aload_n 0, 1)) rfl
theorem dX16_isTrue_1 : decode cX16_isTrue 1 = .ok (.getfield 521, 3) := dk_get daX16_isTrue 1 (r := (1, .getfield 521, 3)) rfl
theorem dX16_isTrue_4 : decode cX16_isTrue 4 = .ok (.iconst 1, 1) := dk_get daX16_isTrue 2 (r := (4, .iconst 1, 1)) rfl
theorem dX16_isTrue_5 : decode cX16_isTrue 5 = .ok (.isub, 1) := dk_get daX16_isTrue 3 (r := (5, .isub, 1)) rfl
theorem dX16_isTrue_6 : decode cX16_isTrue 6 = .ok (.iload_n 1, 1) := dk_get daX16_isTrue 4 (r := (6, .iload_n 1, 1)) rfl
theorem dX16_isTrue_7 : decode cX16_isTrue 7 = .ok (.isub, 1) := dk_get daX16_isTrue 5 (r := (7, .isub, 1)) rfl
theorem dX16_isTrue_8 : decode cX16_isTrue 8 = .ok (.istore_n 2, 1) := dk_get daX16_isTrue 6 (r := (8, .istore_n 2, 1)) rfl
theorem dX16_isTrue_9 : decode cX16_isTrue 9 = .ok (.iconst 0, 1) := dk_get daX16_isTrue 7 (r := (9, .iconst 0, 1)) rfl
theorem dX16_isTrue_10 : decode cX16_isTrue 10 = .ok (.istore_n 3, 1) := dk_get daX16_isTrue 8 (r := (10, .istore_n 3, 1)) rfl
theorem dX16_isTrue_11 : decode cX16_isTrue 11 = .ok (.iload_n 3, 1) := dk_get daX16_isTrue 9 (r := (11, .iload_n 3, 1)) rfl
theorem dX16_isTrue_12 : decode cX16_isTrue 12 = .ok (.aload_n 0, 1) := dk_get daX16_isTrue 10 (r := (12, .aload_n 0, 1)) rfl
theorem dX16_isTrue_13 : decode cX16_isTrue 13 = .ok (.getfield 535, 3) := dk_get daX16_isTrue 11 (r := (13, .getfield 535, 3)) rfl
theorem dX16_isTrue_16 : decode cX16_isTrue 16 = .ok (.iload_n 2, 1) := dk_get daX16_isTrue 12 (r := (16, .iload_n 2, 1)) rfl
theorem dX16_isTrue_17 : decode cX16_isTrue 17 = .ok (.iaload, 1) := dk_get daX16_isTrue 13 (r := (17, .iaload, 1)) rfl
theorem dX16_isTrue_18 : decode cX16_isTrue 18 = .ok (.if_icmp .ge 51, 3) := dk_get daX16_isTrue 14 (r := (18, .if_icmp .ge 51, 3)) rfl
theorem dX16_isTrue_21 : decode cX16_isTrue 21 = .ok (.aload_n 0, 1) := dk_get daX16_isTrue 15 (r := (21, .aload_n 0, 1)) rfl
theorem dX16_isTrue_22 : decode cX16_isTrue 22 = .ok (.getfield 527, 3) := dk_get daX16_isTrue 16 (r := (22, .getfield 527, 3)) rfl
theorem dX16_isTrue_25 : decode cX16_isTrue 25 = .ok (.iload_n 2, 1) := dk_get daX16_isTrue 17 (r := (25, .iload_n 2, 1)) rfl
theorem dX16_isTrue_26 : decode cX16_isTrue 26 = .ok (.aaload, 1) := dk_get daX16_isTrue 18 (r := (26, .aaload, 1)) rfl
theorem dX16_isTrue_27 : decode cX16_isTrue 27 = .ok (.iload_n 3, 1) := dk_get daX16_isTrue 19 (r := (27, .iload_n 3, 1)) rfl
theorem dX16_isTrue_28 : decode cX16_isTrue 28 = .ok (.baload, 1) := dk_get daX16_isTrue 20 (r := (28, .baload, 1)) rfl
theorem dX16_isTrue_29 : decode cX16_isTrue 29 = .ok (.ifCond .eq 34, 3) := dk_get daX16_isTrue 21 (r := (29, .ifCond .eq 34, 3)) rfl
theorem dX16_isTrue_32 : decode cX16_isTrue 32 = .ok (.iload_n 3, 1) := dk_get daX16_isTrue 22 (r := (32, .iload_n 3, 1)) rfl
theorem dX16_isTrue_33 : decode cX16_isTrue 33 = .ok (.aload_n 0, 1) := dk_get daX16_isTrue 23 (r := (33, .aload_n 0, 1)) rfl
theorem dX16_isTrue_34 : decode cX16_isTrue 34 = .ok (.getfield 535, 3) := dk_get daX16_isTrue 24 (r := (34, .getfield 535, 3)) rfl
theorem dX16_isTrue_37 : decode cX16_isTrue 37 = .ok (.iload_n 2, 1) := dk_get daX16_isTrue 25 (r := (37, .iload_n 2, 1)) rfl
theorem dX16_isTrue_38 : decode cX16_isTrue 38 = .ok (.iaload, 1) := dk_get daX16_isTrue 26 (r := (38, .iaload, 1)) rfl
theorem dX16_isTrue_39 : decode cX16_isTrue 39 = .ok (.iconst 1, 1) := dk_get daX16_isTrue 27 (r := (39, .iconst 1, 1)) rfl
theorem dX16_isTrue_40 : decode cX16_isTrue 40 = .ok (.isub, 1) := dk_get daX16_isTrue 28 (r := (40, .isub, 1)) rfl
theorem dX16_isTrue_41 : decode cX16_isTrue 41 = .ok (.if_icmp .lt 16, 3) := dk_get daX16_isTrue 29 (r := (41, .if_icmp .lt 16, 3)) rfl
theorem dX16_isTrue_44 : decode cX16_isTrue 44 = .ok (.aload_n 0, 1) := dk_get daX16_isTrue 30 (r := (44, .aload_n 0, 1)) rfl
theorem dX16_isTrue_45 : decode cX16_isTrue 45 = .ok (.getfield 527, 3) := dk_get daX16_isTrue 31 (r := (45, .getfield 527, 3)) rfl
theorem dX16_isTrue_48 : decode cX16_isTrue 48 = .ok (.iload_n 2, 1) := dk_get daX16_isTrue 32 (r := (48, .iload_n 2, 1)) rfl
theorem dX16_isTrue_49 : decode cX16_isTrue 49 = .ok (.aaload, 1) := dk_get daX16_isTrue 33 (r := (49, .aaload, 1)) rfl
theorem dX16_isTrue_50 : decode cX16_isTrue 50 = .ok (.iload_n 3, 1) := dk_get daX16_isTrue 34 (r := (50, .iload_n 3, 1)) rfl
theorem dX16_isTrue_51 : decode cX16_isTrue 51 = .ok (.baload, 1) := dk_get daX16_isTrue 35 (r := (51, .baload, 1)) rfl
theorem dX16_isTrue_52 : decode cX16_isTrue 52 = .ok (.bipush (-128), 2) := dk_get daX16_isTrue 36 (r := (52, .bipush (-128), 2)) rfl
theorem dX16_isTrue_54 : decode cX16_isTrue 54 = .ok (.if_icmp .eq 7, 3) := dk_get daX16_isTrue 37 (r := (54, .if_icmp .eq 7, 3)) rfl
theorem dX16_isTrue_57 : decode cX16_isTrue 57 = .ok (.iconst 1, 1) := dk_get daX16_isTrue 38 (r := (57, .iconst 1, 1)) rfl
theorem dX16_isTrue_58 : decode cX16_isTrue 58 = .ok (.goto 4, 3) := dk_get daX16_isTrue 39 (r := (58, .goto 4, 3)) rfl
theorem dX16_isTrue_61 : decode cX16_isTrue 61 = .ok (.iconst 0, 1) := dk_get daX16_isTrue 40 (r := (61, .iconst 0, 1)) rfl
theorem dX16_isTrue_62 : decode cX16_isTrue 62 = .ok (.ireturn, 1) := dk_get daX16_isTrue 41 (r := (62, .ireturn, 1)) rfl
theorem dX16_isTrue_63 : decode cX16_isTrue 63 = .ok (.iinc 3 1, 3) := dk_get daX16_isTrue 42 (r := (63, .iinc 3 1, 3)) rfl
theorem dX16_isTrue_66 : decode cX16_isTrue 66 = .ok (.goto (-55), 3) := dk_get daX16_isTrue 43 (r := (66, .goto (-55), 3)) rfl
theorem dX16_isTrue_69 : decode cX16_isTrue 69 = .ok (.iconst 0, 1) := dk_get daX16_isTrue 44 (r := (69, .iconst 0, 1)) rfl
theorem dX16_isTrue_70 : decode cX16_isTrue 70 = .ok (.ireturn, 1) := dk_get daX16_isTrue 45 (r := (70, .ireturn, 1)) rfl
abbrev mX16_pushNumber : ks_M := (RX16, cX16_pushNumber, 6, none, "pushNumber")
def drX16_pushNumber : List (Nat × Instr × Nat) := [(0, .lload_n 1, 1), (1, .lconst 0, 1), (2, .lcmp, 1), (3, .ifCond .ge 8, 3), (6, .lload_n 1, 1), (7, .lneg, 1), (8, .goto 4, 3), (11, .lload_n 1, 1), (12, .lstore_n 3, 1), (13, .iconst 0, 1), (14, .istore 5, 2), (16, .lload_n 3, 1), (17, .lconst 0, 1), (18, .lcmp, 1), (19, .ifCond .eq 24, 3), (22, .aload_n 0, 1), (23, .getfield 542, 3), (26, .iload 5, 2), (28, .lload_n 3, 1), (29, .l2i, 1), (30, .i2b, 1), (31, .bastore, 1), (32, .lload_n 3, 1), (33, .bipush 8, 2), (35, .lushr, 1), (36, .lstore_n 3, 1), (37, .iinc 5 1, 3), (40, .goto (-24), 3), (43, .iload 5, 2), (45, .ifCond .le 26, 3), (48, .aload_n 0, 1), (49, .getfield 542, 3), (52, .iload 5, 2), (54, .iconst 1, 1), (55, .isub, 1), (56, .baload, 1), (57, .ifCond .ge 14, 3), (60, .aload_n 0, 1), (61, .getfield 542, 3), (64, .iload 5, 2), (66, .iconst 0, 1), (67, .bastore, 1), (68, .iinc 5 1, 3), (71, .lload_n 1, 1), (72, .lconst 0, 1), (73, .lcmp, 1), (74, .ifCond .ge 18, 3), (77, .aload_n 0, 1), (78, .getfield 542, 3), (81, .iload 5, 2), (83, .iconst 1, 1), (84, .isub, 1), (85, .dup2, 1), (86, .baload, 1), (87, .bipush (-128), 2), (89, .ior, 1), (90, .i2b, 1), (91, .bastore, 1), (92, .aload_n 0, 1), (93, .aload_n 0, 1), (94, .getfield 542, 3), (97, .iconst 0, 1), (98, .iload 5, 2), (100, .invokevirtual 538, 3), (103, .return_, 1)]
set_option maxRecDepth 100000 in
theorem daX16_pushNumber : dk_all cX16_pushNumber drX16_pushNumber = true := by decide +kernel
theorem dX16_pushNumber_0 : decode cX16_pushNumber 0 = .ok (.lload_n 1, 1) := dk_get daX16_pushNumber 0 (r := (0, .lload_n 1, 1)) rfl
theorem dX16_pushNumber_1 : decode cX16_pushNumber 1 = .ok (.lconst 0, 1) := dk_get daX16_pushNumber 1 (r := (1, .lconst 0, 1)) rfl
theorem dX16_pushNumber_2 : decode cX16_pushNumber 2 = .ok (.lcmp, 1) := dk_get daX16_pushNumber 2 (r := (2, .lcmp, 1)) rfl
theorem dX16_pushNumber_3 : decode cX16_pushNumber 3 = .ok (.ifCond .ge 8, 3) := dk_get daX16_pushNumber 3 (r := (3, .ifCond .ge 8, 3)) rfl
theorem dX16_pushNumber_6 : decode cX16_pushNumber 6 = .ok (.lload_n 1, 1) := dk_get daX16_pushNumber 4 (r := (6, .lload_n 1, 1)) rfl
theorem dX16_pushNumber_7 : decode cX16_pushNumber 7 = .ok (.lneg, 1) := dk_get daX16_pushNumber 5 (r := (7, .lneg, 1)) rfl
theorem dX16_pushNumber_8 : decode cX16_pushNumber 8 = .ok (.goto 4, 3) := dk_get daX16_pushNumber 6 (r := (8, .goto 4, 3)) rfl
theorem dX16_pushNumber_11 : decode cX16_pushNumber 11 = .ok (.lload_n 1, 1) := dk_get daX16_pushNumber 7 (r := (11, .lload_n 1, 1)) rfl
theorem dX16_pushNumber_12 : decode cX16_pushNumber 12 = .ok (.lstore_n 3, 1) := dk_get daX16_pushNumber 8 (r := (12, .lstore_n 3, 1)) rfl
theorem dX16_pushNumber_13 : decode cX16_pushNumber 13 = .ok (.iconst 0, 1) := dk_get daX16_pushNumber 9 (r := (13, .iconst 0, 1)) rfl
theorem dX16_pushNumber_14 : decode cX16_pushNumber 14 = .ok (.istore 5, 2) := dk_get daX16_pushNumber 10 (r := (14, .istore 5, 2)) rfl
theorem dX16_pushNumber_16 : decode cX16_pushNumber 16 = .ok (.lload_n 3, 1) := dk_get daX16_pushNumber 11 (r := (16, .lload_n 3, 1)) rfl
theorem dX16_pushNumber_17 : decode cX16_pushNumber 17 = .ok (.lconst 0, 1) := dk_get daX16_pushNumber 12 (r := (17, .lconst 0, 1)) rfl
theorem dX16_pushNumber_18 : decode cX16_pushNumber 18 = .ok (.lcmp, 1) := dk_get daX16_pushNumber 13 (r := (18, .lcmp, 1)) rfl
theorem dX16_pushNumber_19 : decode cX16_pushNumber 19 = .ok (.ifCond .eq 24, 3) := dk_get daX16_pushNumber 14 (r := (19, .ifCond .eq 24, 3)) rfl
theorem dX16_pushNumber_22 : decode cX16_pushNumber 22 = .ok (.aload_n 0, 1) := dk_get daX16_pushNumber 15 (r := (22, .aload_n 0, 1)) rfl
theorem dX16_pushNumber_23 : decode cX16_pushNumber 23 = .ok (.getfield 542, 3) := dk_get daX16_pushNumber 16 (r := (23, .getfield 542, 3)) rfl
theorem dX16_pushNumber_26 : decode cX16_pushNumber 26 = .ok (.iload 5, 2) := dk_get daX16_pushNumber 17 (r := (26, .iload 5, 2)) rfl
theorem dX16_pushNumber_28 : decode cX16_pushNumber 28 = .ok (.lload_n 3, 1) := dk_get daX16_pushNumber 18 (r := (28, .lload_n 3, 1)) rfl
theorem dX16_pushNumber_29 : decode cX16_pushNumber 29 = .ok (.l2i, 1) := dk_get daX16_pushNumber 19 (r := (29, .l2i, 1)) rfl
theorem dX16_pushNumber_30 : decode cX16_pushNumber 30 = .ok (.i2b, 1) := dk_get daX16_pushNumber 20 (r := (30, .i2b, 1)) rfl
theorem dX16_pushNumber_31 : decode cX16_pushNumber 31 = .ok (.bastore, 1) := dk_get daX16_pushNumber 21 (r := (31, .bastore, 1)) rfl
theorem dX16_pushNumber_32 : decode cX16_pushNumber 32 = .ok (.lload_n 3, 1) := dk_get daX16_pushNumber 22 (r := (32, .lload_n 3, 1)) rfl
theorem dX16_pushNumber_33 : decode cX16_pushNumber 33 = .ok (.bipush 8, 2) := dk_get daX16_pushNumber 23 (r := (33, .bipush 8, 2)) rfl
theorem dX16_pushNumber_35 : decode cX16_pushNumber 35 = .ok (.lushr, 1) := dk_get daX16_pushNumber 24 (r := (35, .lushr, 1)) rfl
theorem dX16_pushNumber_36 : decode cX16_pushNumber 36 = .ok (.lstore_n 3, 1) := dk_get daX16_pushNumber 25 (r := (36, .lstore_n 3, 1)) rfl
theorem dX16_pushNumber_37 : decode cX16_pushNumber 37 = .ok (.iinc 5 1, 3) := dk_get daX16_pushNumber 26 (r := (37, .iinc 5 1, 3)) rfl
theorem dX16_pushNumber_40 : decode cX16_pushNumber 40 = .ok (.goto (-24), 3) := dk_get daX16_pushNumber 27 (r := (40, .goto (-24), 3)) rfl
theorem dX16_pushNumber_43 : decode cX16_pushNumber 43 = .ok (.iload 5, 2) := dk_get daX16_pushNumber 28 (r := (43, .iload 5, 2)) rfl
theorem dX16_pushNumber_45 : decode cX16_pushNumber 45 = .ok (.ifCond .le 26, 3) := dk_get daX16_pushNumber 29 (r := (45, .ifCond .le 26, 3)) rfl
theorem dX16_pushNumber_48 : decode cX16_pushNumber 48 = .ok (.aload_n 0, 1) := dk_get daX16_pushNumber 30 (r := (48, .aload_n 0, 1)) rfl
theorem dX16_pushNumber_49 : decode cX16_pushNumber 49 = .ok (.getfield 542, 3) := dk_get daX16_pushNumber 31 (r := (49, .getfield 542, 3)) rfl
theorem dX16_pushNumber_52 : decode cX16_pushNumber 52 = .ok (.iload 5, 2) := dk_get daX16_pushNumber 32 (r := (52, .iload 5, 2)) rfl
theorem dX16_pushNumber_54 : decode cX16_pushNumber 54 = .ok (.iconst 1, 1) := dk_get daX16_pushNumber 33 (r := (54, .iconst 1, 1)) rfl
theorem dX16_pushNumber_55 : decode cX16_pushNumber 55 = .ok (.isub, 1) := dk_get daX16_pushNumber 34 (r := (55, .isub, 1)) rfl
theorem dX16_pushNumber_56 : decode cX16_pushNumber 56 = .ok (.baload, 1) := dk_get daX16_pushNumber 35 (r := (56, .baload, 1)) rfl
theorem dX16_pushNumber_57 : decode cX16_pushNumber 57 = .ok (.ifCond .ge 14, 3) := dk_get daX16_pushNumber 36 (r := (57, .ifCond .ge 14, 3)) rfl
theorem dX16_pushNumber_60 : decode cX16_pushNumber 60 = .ok (.aload_n 0, 1) := dk_get daX16_pushNumber 37 (r := (60, .aload_n 0, 1)) rfl
theorem dX16_pushNumber_61 : decode cX16_pushNumber 61 = .ok (.getfield 542, 3) := dk_get daX16_pushNumber 38 (r := (61, .getfield 542, 3)) rfl
theorem dX16_pushNumber_64 : decode cX16_pushNumber 64 = .ok (.iload 5, 2) := dk_get daX16_pushNumber 39 (r := (64, .iload 5, 2)) rfl
theorem dX16_pushNumber_66 : decode cX16_pushNumber 66 = .ok (.iconst 0, 1) := dk_get daX16_pushNumber 40 (r := (66, .iconst 0, 1)) rfl
theorem dX16_pushNumber_67 : decode cX16_pushNumber 67 = .ok (.bastore, 1) := dk_get daX16_pushNumber 41 (r := (67, .bastore, 1)) rfl
theorem dX16_pushNumber_68 : decode cX16_pushNumber 68 = .ok (.iinc 5 1, 3) := dk_get daX16_pushNumber 42 (r := (68, .iinc 5 1, 3)) rfl
theorem dX16_pushNumber_71 : decode cX16_pushNumber 71 = .ok (.lload_n 1, 1) := dk_get daX16_pushNumber 43 (r := (71, .lload_n 1, 1)) rfl
theorem dX16_pushNumber_72 : decode cX16_pushNumber 72 = .ok (.lconst 0, 1) := dk_get daX16_pushNumber 44 (r := (72, .lconst 0, 1)) rfl
theorem dX16_pushNumber_73 : decode cX16_pushNumber 73 = .ok (.lcmp, 1) := dk_get daX16_pushNumber 45 (r := (73, .lcmp, 1)) rfl
theorem dX16_pushNumber_74 : decode cX16_pushNumber 74 = .ok (.ifCond .ge 18, 3) := dk_get daX16_pushNumber 46 (r := (74, .ifCond .ge 18, 3)) rfl
theorem dX16_pushNumber_77 : decode cX16_pushNumber 77 = .ok (.aload_n 0, 1) := dk_get daX16_pushNumber 47 (r := (77, .aload_n 0, 1)) rfl
theorem dX16_pushNumber_78 : decode cX16_pushNumber 78 = .ok (.getfield 542, 3) := dk_get daX16_pushNumber 48 (r := (78, .getfield 542, 3)) rfl
theorem dX16_pushNumber_81 : decode cX16_pushNumber 81 = .ok (.iload 5, 2) := dk_get daX16_pushNumber 49 (r := (81, .iload 5, 2)) rfl
theorem dX16_pushNumber_83 : decode cX16_pushNumber 83 = .ok (.iconst 1, 1) := dk_get daX16_pushNumber 50 (r := (83, .iconst 1, 1)) rfl
theorem dX16_pushNumber_84 : decode cX16_pushNumber 84 = .ok (.isub, 1) := dk_get daX16_pushNumber 51 (r := (84, .isub, 1)) rfl
theorem dX16_pushNumber_85 : decode cX16_pushNumber 85 = .ok (.dup2, 1) := dk_get daX16_pushNumber 52 (r := (85, .dup2, 1)) rfl
theorem dX16_pushNumber_86 : decode cX16_pushNumber 86 = .ok (.baload, 1) := dk_get daX16_pushNumber 53 (r := (86, .baload, 1)) rfl
theorem dX16_pushNumber_87 : decode cX16_pushNumber 87 = .ok (.bipush (-128), 2) := dk_get daX16_pushNumber 54 (r := (87, .bipush (-128), 2)) rfl
theorem dX16_pushNumber_89 : decode cX16_pushNumber 89 = .ok (.ior, 1) := dk_get daX16_pushNumber 55 (r := (89, .ior, 1)) rfl
theorem dX16_pushNumber_90 : decode cX16_pushNumber 90 = .ok (.i2b, 1) := dk_get daX16_pushNumber 56 (r := (90, .i2b, 1)) rfl
theorem dX16_pushNumber_91 : decode cX16_pushNumber 91 = .ok (.bastore, 1) := dk_get daX16_pushNumber 57 (r := (91, .bastore, 1)) rfl
theorem dX16_pushNumber_92 : decode cX16_pushNumber 92 = .ok (.aload_n 0, 1) := dk_get daX16_pushNumber 58 (r := (92, .aload_n 0, 1)) rfl
theorem dX16_pushNumber_93 : decode cX16_pushNumber 93 = .ok (.aload_n 0, 1) := dk_get daX16_pushNumber 59 (r := (93, .aload_n 0, 1)) rfl
theorem dX16_pushNumber_94 : decode cX16_pushNumber 94 = .ok (.getfield 542, 3) := dk_get daX16_pushNumber 60 (r := (94, .getfield 542, 3)) rfl
theorem dX16_pushNumber_97 : decode cX16_pushNumber 97 = .ok (.iconst 0, 1) := dk_get daX16_pushNumber 61 (r := (97, .iconst 0, 1)) rfl
theorem dX16_pushNumber_98 : decode cX16_pushNumber 98 = .ok (.iload 5, 2) := dk_get daX16_pushNumber 62 (r := (98, .iload 5, 2)) rfl
theorem dX16_pushNumber_100 : decode cX16_pushNumber 100 = .ok (.invokevirtual 538, 3) := dk_get daX16_pushNumber 63 (r := (100, .invokevirtual 538, 3)) rfl
theorem dX16_pushNumber_103 : decode cX16_pushNumber 103 = .ok (.return_, 1) := dk_get daX16_pushNumber 64 (r := (103, .return_, 1)) rfl
abbrev mX16_pushTruth : ks_M := (RX16, cX16_pushTruth, 2, none, "pushTruth")
def drX16_pushTruth : List (Nat × Instr × Nat) := [(0, .aload_n 0, 1), (1, .iload_n 1, 1), (2, .ifCond .eq 7, 3), (5, .lconst 1, 1), (6, .goto 4, 3), (9, .lconst 0, 1), (10, .invokevirtual 545, 3), (13, .return_, 1)]
set_option maxRecDepth 100000 in
theorem daX16_pushTruth : dk_all cX16_pushTruth drX16_pushTruth = true := by decide +kernel
theorem dX16_pushTruth_0 : decode cX16_pushTruth 0 = .ok (.aload_n 0, 1) := dk_get daX16_pushTruth 0 (r := (0, .aload_n 0, 1)) rfl
theorem dX16_pushTruth_1 : decode cX16_pushTruth 1 = .ok (.iload_n 1, 1) := dk_get daX16_pushTruth 1 (r := (1, .iload_n 1, 1)) rfl
theorem dX16_pushTruth_2 : decode cX16_pushTruth 2 = .ok (.ifCond .eq 7, 3) := dk_get daX16_pushTruth 2 (r := (2, .ifCond .eq 7, 3)) rfl
theorem dX16_pushTruth_5 : decode cX16_pushTruth 5 = .ok (.lconst 1, 1) := dk_get daX16_pushTruth 3 (r := (5, .lconst 1, 1)) rfl
theorem dX16_pushTruth_6 : decode cX16_pushTruth 6 = .ok (.goto 4, 3) := dk_get daX16_pushTruth 4 (r := (6, .goto 4, 3)) rfl
theorem dX16_pushTruth_9 : decode cX16_pushTruth 9 = .ok (.lconst 0, 1) := dk_get daX16_pushTruth 5 (r := (9, .lconst 0, 1)) rfl
theorem dX16_pushTruth_10 : decode cX16_pushTruth 10 = .ok (.invokevirtual 545, 3) := dk_get daX16_pushTruth 6 (r := (10, .invokevirtual 545, 3)) rfl
theorem dX16_pushTruth_13 : decode cX16_pushTruth 13 = .ok (.return_, 1) := dk_get daX16_pushTruth 7 (r := (13, .return_, 1)) rfl
abbrev mX16_numberAt : ks_M := (RX16, cX16_numberAt, 8, (some .long), "numberAt")
def drX16_numberAt : List (Nat × Instr × Nat) := [(0, .aload_n 0, 1), (1, .getfield 521, 3), (4, .iconst 1, 1), (5, .isub, 1), (6, .iload_n 1, 1), (7, .isub, 1), (8, .istore_n 3, 1), (9, .aload_n 0, 1), (10, .getfield 535, 3), (13, .iload_n 3, 1), (14, .iaload, 1), (15, .istore 4, 2), (17, .iload 4, 2), (19, .iload_n 2, 1), (20, .if_icmp .le 10, 3), (23, .aload_n 0, 1), (24, .iconst 1, 1), (25, .putfield 524, 3), (28, .lconst 0, 1), (29, .lreturn, 1), (30, .iload 4, 2), (32, .ifCond .ne 5, 3), (35, .lconst 0, 1), (36, .lreturn, 1), (37, .lconst 0, 1), (38, .lstore 5, 2), (40, .iload 4, 2), (42, .iconst 1, 1), (43, .isub, 1), (44, .istore 7, 2), (46, .iload 7, 2), (48, .ifCond .lt 55, 3), (51, .lload 5, 2), (53, .bipush 8, 2), (55, .lshl, 1), (56, .iload 7, 2), (58, .iload 4, 2), (60, .iconst 1, 1), (61, .isub, 1), (62, .if_icmp .ne 18, 3), (65, .aload_n 0, 1), (66, .getfield 527, 3), (69, .iload_n 3, 1), (70, .aaload, 1), (71, .iload 7, 2), (73, .baload, 1), (74, .bipush 127, 2), (76, .iand, 1), (77, .goto 16, 3), (80, .aload_n 0, 1), (81, .getfield 527, 3), (84, .iload_n 3, 1), (85, .aaload, 1), (86, .iload 7, 2), (88, .baload, 1), (89, .sipush 255, 3), (92, .iand, 1), (93, .i2l, 1), (94, .lor, 1), (95, .lstore 5, 2), (97, .iinc 7 (-1), 3), (100, .goto (-54), 3), (103, .aload_n 0, 1), (104, .getfield 527, 3), (107, .iload_n 3, 1), (108, .aaload, 1), (109, .iload 4, 2), (111, .iconst 1, 1), (112, .isub, 1), (113, .baload, 1), (114, .ifCond .ge 9, 3), (117, .lload 5, 2), (119, .lneg, 1), (120, .goto 5, 3), (123, .lload 5, 2), (125, .lreturn, 1)]
set_option maxRecDepth 100000 in
theorem daX16_numberAt : dk_all cX16_numberAt drX16_numberAt = true := by decide +kernel
theorem dX16_numberAt_0 : decode cX16_numberAt 0 = .ok (.aload_n 0, 1) := dk_get daX16_numberAt 0 (r := (0, .aload_n 0, 1)) rfl
theorem dX16_numberAt_1 : decode cX16_numberAt 1 = .ok (.getfield 521, 3) := dk_get daX16_numberAt 1 (r := (1, .getfield 521, 3)) rfl
theorem dX16_numberAt_4 : decode cX16_numberAt 4 = .ok (.iconst 1, 1) := dk_get daX16_numberAt 2 (r := (4, .iconst 1, 1)) rfl
theorem dX16_numberAt_5 : decode cX16_numberAt 5 = .ok (.isub, 1) := dk_get daX16_numberAt 3 (r := (5, .isub, 1)) rfl
theorem dX16_numberAt_6 : decode cX16_numberAt 6 = .ok (.iload_n 1, 1) := dk_get daX16_numberAt 4 (r := (6, .iload_n 1, 1)) rfl
theorem dX16_numberAt_7 : decode cX16_numberAt 7 = .ok (.isub, 1) := dk_get daX16_numberAt 5 (r := (7, .isub, 1)) rfl
theorem dX16_numberAt_8 : decode cX16_numberAt 8 = .ok (.istore_n 3, 1) := dk_get daX16_numberAt 6 (r := (8, .istore_n 3, 1)) rfl
theorem dX16_numberAt_9 : decode cX16_numberAt 9 = .ok (.aload_n 0, 1) := dk_get daX16_numberAt 7 (r := (9, .aload_n 0, 1)) rfl
theorem dX16_numberAt_10 : decode cX16_numberAt 10 = .ok (.getfield 535, 3) := dk_get daX16_numberAt 8 (r := (10, .getfield 535, 3)) rfl
theorem dX16_numberAt_13 : decode cX16_numberAt 13 = .ok (.iload_n 3, 1) := dk_get daX16_numberAt 9 (r := (13, .iload_n 3, 1)) rfl
theorem dX16_numberAt_14 : decode cX16_numberAt 14 = .ok (.iaload, 1) := dk_get daX16_numberAt 10 (r := (14, .iaload, 1)) rfl
theorem dX16_numberAt_15 : decode cX16_numberAt 15 = .ok (.istore 4, 2) := dk_get daX16_numberAt 11 (r := (15, .istore 4, 2)) rfl
theorem dX16_numberAt_17 : decode cX16_numberAt 17 = .ok (.iload 4, 2) := dk_get daX16_numberAt 12 (r := (17, .iload 4, 2)) rfl
theorem dX16_numberAt_19 : decode cX16_numberAt 19 = .ok (.iload_n 2, 1) := dk_get daX16_numberAt 13 (r := (19, .iload_n 2, 1)) rfl
theorem dX16_numberAt_20 : decode cX16_numberAt 20 = .ok (.if_icmp .le 10, 3) := dk_get daX16_numberAt 14 (r := (20, .if_icmp .le 10, 3)) rfl
theorem dX16_numberAt_23 : decode cX16_numberAt 23 = .ok (.aload_n 0, 1) := dk_get daX16_numberAt 15 (r := (23, .aload_n 0, 1)) rfl
theorem dX16_numberAt_24 : decode cX16_numberAt 24 = .ok (.iconst 1, 1) := dk_get daX16_numberAt 16 (r := (24, .iconst 1, 1)) rfl
theorem dX16_numberAt_25 : decode cX16_numberAt 25 = .ok (.putfield 524, 3) := dk_get daX16_numberAt 17 (r := (25, .putfield 524, 3)) rfl
theorem dX16_numberAt_28 : decode cX16_numberAt 28 = .ok (.lconst 0, 1) := dk_get daX16_numberAt 18 (r := (28, .lconst 0, 1)) rfl
theorem dX16_numberAt_29 : decode cX16_numberAt 29 = .ok (.lreturn, 1) := dk_get daX16_numberAt 19 (r := (29, .lreturn, 1)) rfl
theorem dX16_numberAt_30 : decode cX16_numberAt 30 = .ok (.iload 4, 2) := dk_get daX16_numberAt 20 (r := (30, .iload 4, 2)) rfl
theorem dX16_numberAt_32 : decode cX16_numberAt 32 = .ok (.ifCond .ne 5, 3) := dk_get daX16_numberAt 21 (r := (32, .ifCond .ne 5, 3)) rfl
theorem dX16_numberAt_35 : decode cX16_numberAt 35 = .ok (.lconst 0, 1) := dk_get daX16_numberAt 22 (r := (35, .lconst 0, 1)) rfl
theorem dX16_numberAt_36 : decode cX16_numberAt 36 = .ok (.lreturn, 1) := dk_get daX16_numberAt 23 (r := (36, .lreturn, 1)) rfl
theorem dX16_numberAt_37 : decode cX16_numberAt 37 = .ok (.lconst 0, 1) := dk_get daX16_numberAt 24 (r := (37, .lconst 0, 1)) rfl
theorem dX16_numberAt_38 : decode cX16_numberAt 38 = .ok (.lstore 5, 2) := dk_get daX16_numberAt 25 (r := (38, .lstore 5, 2)) rfl
theorem dX16_numberAt_40 : decode cX16_numberAt 40 = .ok (.iload 4, 2) := dk_get daX16_numberAt 26 (r := (40, .iload 4, 2)) rfl
theorem dX16_numberAt_42 : decode cX16_numberAt 42 = .ok (.iconst 1, 1) := dk_get daX16_numberAt 27 (r := (42, .iconst 1, 1)) rfl
theorem dX16_numberAt_43 : decode cX16_numberAt 43 = .ok (.isub, 1) := dk_get daX16_numberAt 28 (r := (43, .isub, 1)) rfl
theorem dX16_numberAt_44 : decode cX16_numberAt 44 = .ok (.istore 7, 2) := dk_get daX16_numberAt 29 (r := (44, .istore 7, 2)) rfl
theorem dX16_numberAt_46 : decode cX16_numberAt 46 = .ok (.iload 7, 2) := dk_get daX16_numberAt 30 (r := (46, .iload 7, 2)) rfl
theorem dX16_numberAt_48 : decode cX16_numberAt 48 = .ok (.ifCond .lt 55, 3) := dk_get daX16_numberAt 31 (r := (48, .ifCond .lt 55, 3)) rfl
theorem dX16_numberAt_51 : decode cX16_numberAt 51 = .ok (.lload 5, 2) := dk_get daX16_numberAt 32 (r := (51, .lload 5, 2)) rfl
theorem dX16_numberAt_53 : decode cX16_numberAt 53 = .ok (.bipush 8, 2) := dk_get daX16_numberAt 33 (r := (53, .bipush 8, 2)) rfl
theorem dX16_numberAt_55 : decode cX16_numberAt 55 = .ok (.lshl, 1) := dk_get daX16_numberAt 34 (r := (55, .lshl, 1)) rfl
theorem dX16_numberAt_56 : decode cX16_numberAt 56 = .ok (.iload 7, 2) := dk_get daX16_numberAt 35 (r := (56, .iload 7, 2)) rfl
theorem dX16_numberAt_58 : decode cX16_numberAt 58 = .ok (.iload 4, 2) := dk_get daX16_numberAt 36 (r := (58, .iload 4, 2)) rfl
theorem dX16_numberAt_60 : decode cX16_numberAt 60 = .ok (.iconst 1, 1) := dk_get daX16_numberAt 37 (r := (60, .iconst 1, 1)) rfl
theorem dX16_numberAt_61 : decode cX16_numberAt 61 = .ok (.isub, 1) := dk_get daX16_numberAt 38 (r := (61, .isub, 1)) rfl
theorem dX16_numberAt_62 : decode cX16_numberAt 62 = .ok (.if_icmp .ne 18, 3) := dk_get daX16_numberAt 39 (r := (62, .if_icmp .ne 18, 3)) rfl
theorem dX16_numberAt_65 : decode cX16_numberAt 65 = .ok (.aload_n 0, 1) := dk_get daX16_numberAt 40 (r := (65, .aload_n 0, 1)) rfl
theorem dX16_numberAt_66 : decode cX16_numberAt 66 = .ok (.getfield 527, 3) := dk_get daX16_numberAt 41 (r := (66, .getfield 527, 3)) rfl
theorem dX16_numberAt_69 : decode cX16_numberAt 69 = .ok (.iload_n 3, 1) := dk_get daX16_numberAt 42 (r := (69, .iload_n 3, 1)) rfl
theorem dX16_numberAt_70 : decode cX16_numberAt 70 = .ok (.aaload, 1) := dk_get daX16_numberAt 43 (r := (70, .aaload, 1)) rfl
theorem dX16_numberAt_71 : decode cX16_numberAt 71 = .ok (.iload 7, 2) := dk_get daX16_numberAt 44 (r := (71, .iload 7, 2)) rfl
theorem dX16_numberAt_73 : decode cX16_numberAt 73 = .ok (.baload, 1) := dk_get daX16_numberAt 45 (r := (73, .baload, 1)) rfl
theorem dX16_numberAt_74 : decode cX16_numberAt 74 = .ok (.bipush 127, 2) := dk_get daX16_numberAt 46 (r := (74, .bipush 127, 2)) rfl
theorem dX16_numberAt_76 : decode cX16_numberAt 76 = .ok (.iand, 1) := dk_get daX16_numberAt 47 (r := (76, .iand, 1)) rfl
theorem dX16_numberAt_77 : decode cX16_numberAt 77 = .ok (.goto 16, 3) := dk_get daX16_numberAt 48 (r := (77, .goto 16, 3)) rfl
theorem dX16_numberAt_80 : decode cX16_numberAt 80 = .ok (.aload_n 0, 1) := dk_get daX16_numberAt 49 (r := (80, .aload_n 0, 1)) rfl
theorem dX16_numberAt_81 : decode cX16_numberAt 81 = .ok (.getfield 527, 3) := dk_get daX16_numberAt 50 (r := (81, .getfield 527, 3)) rfl
theorem dX16_numberAt_84 : decode cX16_numberAt 84 = .ok (.iload_n 3, 1) := dk_get daX16_numberAt 51 (r := (84, .iload_n 3, 1)) rfl
theorem dX16_numberAt_85 : decode cX16_numberAt 85 = .ok (.aaload, 1) := dk_get daX16_numberAt 52 (r := (85, .aaload, 1)) rfl
theorem dX16_numberAt_86 : decode cX16_numberAt 86 = .ok (.iload 7, 2) := dk_get daX16_numberAt 53 (r := (86, .iload 7, 2)) rfl
theorem dX16_numberAt_88 : decode cX16_numberAt 88 = .ok (.baload, 1) := dk_get daX16_numberAt 54 (r := (88, .baload, 1)) rfl
theorem dX16_numberAt_89 : decode cX16_numberAt 89 = .ok (.sipush 255, 3) := dk_get daX16_numberAt 55 (r := (89, .sipush 255, 3)) rfl
theorem dX16_numberAt_92 : decode cX16_numberAt 92 = .ok (.iand, 1) := dk_get daX16_numberAt 56 (r := (92, .iand, 1)) rfl
theorem dX16_numberAt_93 : decode cX16_numberAt 93 = .ok (.i2l, 1) := dk_get daX16_numberAt 57 (r := (93, .i2l, 1)) rfl
theorem dX16_numberAt_94 : decode cX16_numberAt 94 = .ok (.lor, 1) := dk_get daX16_numberAt 58 (r := (94, .lor, 1)) rfl
theorem dX16_numberAt_95 : decode cX16_numberAt 95 = .ok (.lstore 5, 2) := dk_get daX16_numberAt 59 (r := (95, .lstore 5, 2)) rfl
theorem dX16_numberAt_97 : decode cX16_numberAt 97 = .ok (.iinc 7 (-1), 3) := dk_get daX16_numberAt 60 (r := (97, .iinc 7 (-1), 3)) rfl
theorem dX16_numberAt_100 : decode cX16_numberAt 100 = .ok (.goto (-54), 3) := dk_get daX16_numberAt 61 (r := (100, .goto (-54), 3)) rfl
theorem dX16_numberAt_103 : decode cX16_numberAt 103 = .ok (.aload_n 0, 1) := dk_get daX16_numberAt 62 (r := (103, .aload_n 0, 1)) rfl
theorem dX16_numberAt_104 : decode cX16_numberAt 104 = .ok (.getfield 527, 3) := dk_get daX16_numberAt 63 (r := (104, .getfield 527, 3)) rfl
theorem dX16_numberAt_107 : decode cX16_numberAt 107 = .ok (.iload_n 3, 1) := dk_get daX16_numberAt 64 (r := (107, .iload_n 3, 1)) rfl
theorem dX16_numberAt_108 : decode cX16_numberAt 108 = .ok (.aaload, 1) := dk_get daX16_numberAt 65 (r := (108, .aaload, 1)) rfl
theorem dX16_numberAt_109 : decode cX16_numberAt 109 = .ok (.iload 4, 2) := dk_get daX16_numberAt 66 (r := (109, .iload 4, 2)) rfl
theorem dX16_numberAt_111 : decode cX16_numberAt 111 = .ok (.iconst 1, 1) := dk_get daX16_numberAt 67 (r := (111, .iconst 1, 1)) rfl
theorem dX16_numberAt_112 : decode cX16_numberAt 112 = .ok (.isub, 1) := dk_get daX16_numberAt 68 (r := (112, .isub, 1)) rfl
theorem dX16_numberAt_113 : decode cX16_numberAt 113 = .ok (.baload, 1) := dk_get daX16_numberAt 69 (r := (113, .baload, 1)) rfl
theorem dX16_numberAt_114 : decode cX16_numberAt 114 = .ok (.ifCond .ge 9, 3) := dk_get daX16_numberAt 70 (r := (114, .ifCond .ge 9, 3)) rfl
theorem dX16_numberAt_117 : decode cX16_numberAt 117 = .ok (.lload 5, 2) := dk_get daX16_numberAt 71 (r := (117, .lload 5, 2)) rfl
theorem dX16_numberAt_119 : decode cX16_numberAt 119 = .ok (.lneg, 1) := dk_get daX16_numberAt 72 (r := (119, .lneg, 1)) rfl
theorem dX16_numberAt_120 : decode cX16_numberAt 120 = .ok (.goto 5, 3) := dk_get daX16_numberAt 73 (r := (120, .goto 5, 3)) rfl
theorem dX16_numberAt_123 : decode cX16_numberAt 123 = .ok (.lload 5, 2) := dk_get daX16_numberAt 74 (r := (123, .lload 5, 2)) rfl
theorem dX16_numberAt_125 : decode cX16_numberAt 125 = .ok (.lreturn, 1) := dk_get daX16_numberAt 75 (r := (125, .lreturn, 1)) rfl
abbrev mX16_need : ks_M := (RX16, cX16_need, 2, (some .boolean), "need")
def drX16_need : List (Nat × Instr × Nat) := [(0, .aload_n 0, 1), (1, .getfield 521, 3), (4, .iload_n 1, 1), (5, .if_icmp .ge 8, 3), (8, .aload_n 0, 1), (9, .iconst 1, 1), (10, .putfield 524, 3), (13, .aload_n 0, 1), (14, .getfield 521, 3), (17, .iload_n 1, 1), (18, .if_icmp .lt 7, 3), (21, .iconst 1, 1), (22, .goto 4, 3), (25, .iconst 0, 1), (26, .ireturn, 1)]
set_option maxRecDepth 100000 in
theorem daX16_need : dk_all cX16_need drX16_need = true := by decide +kernel
theorem dX16_need_0 : decode cX16_need 0 = .ok (.aload_n 0, 1) := dk_get daX16_need 0 (r := (0, .aload_n 0, 1)) rfl
theorem dX16_need_1 : decode cX16_need 1 = .ok (.getfield 521, 3) := dk_get daX16_need 1 (r := (1, .getfield 521, 3)) rfl
theorem dX16_need_4 : decode cX16_need 4 = .ok (.iload_n 1, 1) := dk_get daX16_need 2 (r := (4, .iload_n 1, 1)) rfl
theorem dX16_need_5 : decode cX16_need 5 = .ok (.if_icmp .ge 8, 3) := dk_get daX16_need 3 (r := (5, .if_icmp .ge 8, 3)) rfl
theorem dX16_need_8 : decode cX16_need 8 = .ok (.aload_n 0, 1) := dk_get daX16_need 4 (r := (8, .aload_n 0, 1)) rfl
theorem dX16_need_9 : decode cX16_need 9 = .ok (.iconst 1, 1) := dk_get daX16_need 5 (r := (9, .iconst 1, 1)) rfl
theorem dX16_need_10 : decode cX16_need 10 = .ok (.putfield 524, 3) := dk_get daX16_need 6 (r := (10, .putfield 524, 3)) rfl
theorem dX16_need_13 : decode cX16_need 13 = .ok (.aload_n 0, 1) := dk_get daX16_need 7 (r := (13, .aload_n 0, 1)) rfl
theorem dX16_need_14 : decode cX16_need 14 = .ok (.getfield 521, 3) := dk_get daX16_need 8 (r := (14, .getfield 521, 3)) rfl
theorem dX16_need_17 : decode cX16_need 17 = .ok (.iload_n 1, 1) := dk_get daX16_need 9 (r := (17, .iload_n 1, 1)) rfl
theorem dX16_need_18 : decode cX16_need 18 = .ok (.if_icmp .lt 7, 3) := dk_get daX16_need 10 (r := (18, .if_icmp .lt 7, 3)) rfl
theorem dX16_need_21 : decode cX16_need 21 = .ok (.iconst 1, 1) := dk_get daX16_need 11 (r := (21, .iconst 1, 1)) rfl
theorem dX16_need_22 : decode cX16_need 22 = .ok (.goto 4, 3) := dk_get daX16_need 12 (r := (22, .goto 4, 3)) rfl
theorem dX16_need_25 : decode cX16_need 25 = .ok (.iconst 0, 1) := dk_get daX16_need 13 (r := (25, .iconst 0, 1)) rfl
theorem dX16_need_26 : decode cX16_need 26 = .ok (.ireturn, 1) := dk_get daX16_need 14 (r := (26, .ireturn, 1)) rfl
abbrev mX16_never : ks_M := (RX16, cX16_never, 1, (some .boolean), "never")
def drX16_never : List (Nat × Instr × Nat) := [(0, .iload_n 0, 1), (1, .bipush 126, 2), (3, .if_icmp .lt 10, 3), (6, .iload_n 0, 1), (7, .sipush 129, 3), (10, .if_icmp .le 57, 3), (13, .iload_n 0, 1), (14, .sipush 131, 3), (17, .if_icmp .lt 10, 3), (20, .iload_n 0, 1), (21, .sipush 134, 3), (24, .if_icmp .le 43, 3), (27, .iload_n 0, 1), (28, .sipush 141, 3), (31, .if_icmp .eq 36, 3), (34, .iload_n 0, 1), (35, .sipush 142, 3), (38, .if_icmp .eq 29, 3), (41, .iload_n 0, 1), (42, .sipush 149, 3), (45, .if_icmp .lt 10, 3), (48, .iload_n 0, 1), (49, .sipush 153, 3), (52, .if_icmp .le 15, 3), (55, .iload_n 0, 1), (56, .bipush 101, 2), (58, .if_icmp .eq 9, 3), (61, .iload_n 0, 1), (62, .bipush 102, 2), (64, .if_icmp .ne 7, 3), (67, .iconst 1, 1), (68, .goto 4, 3), (71, .iconst 0, 1), (72, .ireturn, 1)]
set_option maxRecDepth 100000 in
theorem daX16_never : dk_all cX16_never drX16_never = true := by decide +kernel
theorem dX16_never_0 : decode cX16_never 0 = .ok (.iload_n 0, 1) := dk_get daX16_never 0 (r := (0, .iload_n 0, 1)) rfl
theorem dX16_never_1 : decode cX16_never 1 = .ok (.bipush 126, 2) := dk_get daX16_never 1 (r := (1, .bipush 126, 2)) rfl
theorem dX16_never_3 : decode cX16_never 3 = .ok (.if_icmp .lt 10, 3) := dk_get daX16_never 2 (r := (3, .if_icmp .lt 10, 3)) rfl
theorem dX16_never_6 : decode cX16_never 6 = .ok (.iload_n 0, 1) := dk_get daX16_never 3 (r := (6, .iload_n 0, 1)) rfl
theorem dX16_never_7 : decode cX16_never 7 = .ok (.sipush 129, 3) := dk_get daX16_never 4 (r := (7, .sipush 129, 3)) rfl
theorem dX16_never_10 : decode cX16_never 10 = .ok (.if_icmp .le 57, 3) := dk_get daX16_never 5 (r := (10, .if_icmp .le 57, 3)) rfl
theorem dX16_never_13 : decode cX16_never 13 = .ok (.iload_n 0, 1) := dk_get daX16_never 6 (r := (13, .iload_n 0, 1)) rfl
theorem dX16_never_14 : decode cX16_never 14 = .ok (.sipush 131, 3) := dk_get daX16_never 7 (r := (14, .sipush 131, 3)) rfl
theorem dX16_never_17 : decode cX16_never 17 = .ok (.if_icmp .lt 10, 3) := dk_get daX16_never 8 (r := (17, .if_icmp .lt 10, 3)) rfl
theorem dX16_never_20 : decode cX16_never 20 = .ok (.iload_n 0, 1) := dk_get daX16_never 9 (r := (20, .iload_n 0, 1)) rfl
theorem dX16_never_21 : decode cX16_never 21 = .ok (.sipush 134, 3) := dk_get daX16_never 10 (r := (21, .sipush 134, 3)) rfl
theorem dX16_never_24 : decode cX16_never 24 = .ok (.if_icmp .le 43, 3) := dk_get daX16_never 11 (r := (24, .if_icmp .le 43, 3)) rfl
theorem dX16_never_27 : decode cX16_never 27 = .ok (.iload_n 0, 1) := dk_get daX16_never 12 (r := (27, .iload_n 0, 1)) rfl
theorem dX16_never_28 : decode cX16_never 28 = .ok (.sipush 141, 3) := dk_get daX16_never 13 (r := (28, .sipush 141, 3)) rfl
theorem dX16_never_31 : decode cX16_never 31 = .ok (.if_icmp .eq 36, 3) := dk_get daX16_never 14 (r := (31, .if_icmp .eq 36, 3)) rfl
theorem dX16_never_34 : decode cX16_never 34 = .ok (.iload_n 0, 1) := dk_get daX16_never 15 (r := (34, .iload_n 0, 1)) rfl
theorem dX16_never_35 : decode cX16_never 35 = .ok (.sipush 142, 3) := dk_get daX16_never 16 (r := (35, .sipush 142, 3)) rfl
theorem dX16_never_38 : decode cX16_never 38 = .ok (.if_icmp .eq 29, 3) := dk_get daX16_never 17 (r := (38, .if_icmp .eq 29, 3)) rfl
theorem dX16_never_41 : decode cX16_never 41 = .ok (.iload_n 0, 1) := dk_get daX16_never 18 (r := (41, .iload_n 0, 1)) rfl
theorem dX16_never_42 : decode cX16_never 42 = .ok (.sipush 149, 3) := dk_get daX16_never 19 (r := (42, .sipush 149, 3)) rfl
theorem dX16_never_45 : decode cX16_never 45 = .ok (.if_icmp .lt 10, 3) := dk_get daX16_never 20 (r := (45, .if_icmp .lt 10, 3)) rfl
theorem dX16_never_48 : decode cX16_never 48 = .ok (.iload_n 0, 1) := dk_get daX16_never 21 (r := (48, .iload_n 0, 1)) rfl
theorem dX16_never_49 : decode cX16_never 49 = .ok (.sipush 153, 3) := dk_get daX16_never 22 (r := (49, .sipush 153, 3)) rfl
theorem dX16_never_52 : decode cX16_never 52 = .ok (.if_icmp .le 15, 3) := dk_get daX16_never 23 (r := (52, .if_icmp .le 15, 3)) rfl
theorem dX16_never_55 : decode cX16_never 55 = .ok (.iload_n 0, 1) := dk_get daX16_never 24 (r := (55, .iload_n 0, 1)) rfl
theorem dX16_never_56 : decode cX16_never 56 = .ok (.bipush 101, 2) := dk_get daX16_never 25 (r := (56, .bipush 101, 2)) rfl
theorem dX16_never_58 : decode cX16_never 58 = .ok (.if_icmp .eq 9, 3) := dk_get daX16_never 26 (r := (58, .if_icmp .eq 9, 3)) rfl
theorem dX16_never_61 : decode cX16_never 61 = .ok (.iload_n 0, 1) := dk_get daX16_never 27 (r := (61, .iload_n 0, 1)) rfl
theorem dX16_never_62 : decode cX16_never 62 = .ok (.bipush 102, 2) := dk_get daX16_never 28 (r := (62, .bipush 102, 2)) rfl
theorem dX16_never_64 : decode cX16_never 64 = .ok (.if_icmp .ne 7, 3) := dk_get daX16_never 29 (r := (64, .if_icmp .ne 7, 3)) rfl
theorem dX16_never_67 : decode cX16_never 67 = .ok (.iconst 1, 1) := dk_get daX16_never 30 (r := (67, .iconst 1, 1)) rfl
theorem dX16_never_68 : decode cX16_never 68 = .ok (.goto 4, 3) := dk_get daX16_never 31 (r := (68, .goto 4, 3)) rfl
theorem dX16_never_71 : decode cX16_never 71 = .ok (.iconst 0, 1) := dk_get daX16_never 32 (r := (71, .iconst 0, 1)) rfl
theorem dX16_never_72 : decode cX16_never 72 = .ok (.ireturn, 1) := dk_get daX16_never 33 (r := (72, .ireturn, 1)) rfl
abbrev mX16_run : ks_M := (RX16, cX16_run, 9, (some .boolean), "run")
def drX16_run : List (Nat × Instr × Nat) := [(0, .aload_n 0, 1), (1, .aload_n 1, 1), (2, .putfield 548, 3), (5, .aload_n 0, 1), (6, .iload_n 2, 1), (7, .putfield 551, 3), (10, .aload_n 0, 1), (11, .iload_n 2, 1), (12, .iload_n 3, 1), (13, .iadd, 1), (14, .putfield 554, 3), (17, .aload_n 0, 1), (18, .iconst 0, 1), (19, .putfield 557, 3), (22, .aload_n 0, 1), (23, .iconst 0, 1), (24, .putfield 560, 3), (27, .aload_n 0, 1), (28, .iconst 0, 1), (29, .putfield 563, 3), (32, .aload_n 0, 1), (33, .iconst 0, 1), (34, .putfield 524, 3), (37, .iload_n 2, 1), (38, .istore 4, 2), (40, .iload 4, 2), (42, .aload_n 0, 1), (43, .getfield 554, 3), (46, .if_icmp .ge 197, 3), (49, .aload_n 1, 1), (50, .iload 4, 2), (52, .baload, 1), (53, .sipush 255, 3), (56, .iand, 1), (57, .istore 5, 2), (59, .aload_n 0, 1), (60, .aload_n 1, 1), (61, .iload 4, 2), (63, .aload_n 0, 1), (64, .getfield 554, 3), (67, .invokevirtual 423, 3), (70, .istore 6, 2), (72, .iload 6, 2), (74, .ifCond .lt 13, 3), (77, .aload_n 0, 1), (78, .getfield 427, 3), (81, .sipush 520, 3), (84, .if_icmp .le 5, 3), (87, .iconst 0, 1), (88, .ireturn, 1), (89, .iload 5, 2), (91, .bipush 96, 2), (93, .if_icmp .le 13, 3), (96, .aload_n 0, 1), (97, .dup, 1), (98, .getfield 557, 3), (101, .iconst 1, 1), (102, .iadd, 1), (103, .putfield 557, 3), (106, .aload_n 0, 1), (107, .getfield 557, 3), (110, .sipush 201, 3), (113, .if_icmp .gt 11, 3), (116, .iload 5, 2), (118, .invokestatic 566, 3), (121, .ifCond .eq 5, 3), (124, .iconst 0, 1), (125, .ireturn, 1), (126, .iconst 1, 1), (127, .istore 7, 2), (129, .iconst 0, 1), (130, .istore 8, 2), (132, .iload 8, 2), (134, .aload_n 0, 1), (135, .getfield 563, 3), (138, .if_icmp .ge 21, 3), (141, .iload 7, 2), (143, .aload_n 0, 1), (144, .getfield 570, 3), (147, .iload 8, 2), (149, .baload, 1), (150, .iand, 1), (151, .istore 7, 2), (153, .iinc 8 1, 3), (156, .goto (-24), 3), (159, .iload 5, 2), (161, .bipush 99, 2), (163, .if_icmp .lt 35, 3), (166, .iload 5, 2), (168, .bipush 104, 2), (170, .if_icmp .gt 28, 3), (173, .iload 5, 2), (175, .bipush 101, 2), (177, .if_icmp .eq 21, 3), (180, .iload 5, 2), (182, .bipush 102, 2), (184, .if_icmp .eq 14, 3), (187, .aload_n 0, 1), (188, .iload 5, 2), (190, .iload 7, 2), (192, .invokevirtual 574, 3), (195, .goto 17, 3), (198, .iload 7, 2), (200, .ifCond .eq 12, 3), (203, .aload_n 0, 1), (204, .iload 5, 2), (206, .aload_n 1, 1), (207, .iload 6, 2), (209, .invokevirtual 578, 3), (212, .aload_n 0, 1), (213, .getfield 524, 3), (216, .ifCond .ne 18, 3), (219, .aload_n 0, 1), (220, .getfield 521, 3), (223, .aload_n 0, 1), (224, .getfield 560, 3), (227, .iadd, 1), (228, .sipush 1000, 3), (231, .if_icmp .le 5, 3), (234, .iconst 0, 1), (235, .ireturn, 1), (236, .iload 6, 2), (238, .istore 4, 2), (240, .goto (-200), 3), (243, .aload_n 0, 1), (244, .getfield 563, 3), (247, .ifCond .ne 7, 3), (250, .iconst 1, 1), (251, .goto 4, 3), (254, .iconst 0, 1), (255, .ireturn, 1)]
set_option maxRecDepth 100000 in
theorem daX16_run : dk_all cX16_run drX16_run = true := by decide +kernel
theorem dX16_run_0 : decode cX16_run 0 = .ok (.aload_n 0, 1) := dk_get daX16_run 0 (r := (0, .aload_n 0, 1)) rfl
theorem dX16_run_1 : decode cX16_run 1 = .ok (.aload_n 1, 1) := dk_get daX16_run 1 (r := (1, .aload_n 1, 1)) rfl
theorem dX16_run_2 : decode cX16_run 2 = .ok (.putfield 548, 3) := dk_get daX16_run 2 (r := (2, .putfield 548, 3)) rfl
theorem dX16_run_5 : decode cX16_run 5 = .ok (.aload_n 0, 1) := dk_get daX16_run 3 (r := (5, .aload_n 0, 1)) rfl
theorem dX16_run_6 : decode cX16_run 6 = .ok (.iload_n 2, 1) := dk_get daX16_run 4 (r := (6, .iload_n 2, 1)) rfl
theorem dX16_run_7 : decode cX16_run 7 = .ok (.putfield 551, 3) := dk_get daX16_run 5 (r := (7, .putfield 551, 3)) rfl
theorem dX16_run_10 : decode cX16_run 10 = .ok (.aload_n 0, 1) := dk_get daX16_run 6 (r := (10, .aload_n 0, 1)) rfl
theorem dX16_run_11 : decode cX16_run 11 = .ok (.iload_n 2, 1) := dk_get daX16_run 7 (r := (11, .iload_n 2, 1)) rfl
theorem dX16_run_12 : decode cX16_run 12 = .ok (.iload_n 3, 1) := dk_get daX16_run 8 (r := (12, .iload_n 3, 1)) rfl
theorem dX16_run_13 : decode cX16_run 13 = .ok (.iadd, 1) := dk_get daX16_run 9 (r := (13, .iadd, 1)) rfl
theorem dX16_run_14 : decode cX16_run 14 = .ok (.putfield 554, 3) := dk_get daX16_run 10 (r := (14, .putfield 554, 3)) rfl
theorem dX16_run_17 : decode cX16_run 17 = .ok (.aload_n 0, 1) := dk_get daX16_run 11 (r := (17, .aload_n 0, 1)) rfl
theorem dX16_run_18 : decode cX16_run 18 = .ok (.iconst 0, 1) := dk_get daX16_run 12 (r := (18, .iconst 0, 1)) rfl
theorem dX16_run_19 : decode cX16_run 19 = .ok (.putfield 557, 3) := dk_get daX16_run 13 (r := (19, .putfield 557, 3)) rfl
theorem dX16_run_22 : decode cX16_run 22 = .ok (.aload_n 0, 1) := dk_get daX16_run 14 (r := (22, .aload_n 0, 1)) rfl
theorem dX16_run_23 : decode cX16_run 23 = .ok (.iconst 0, 1) := dk_get daX16_run 15 (r := (23, .iconst 0, 1)) rfl
theorem dX16_run_24 : decode cX16_run 24 = .ok (.putfield 560, 3) := dk_get daX16_run 16 (r := (24, .putfield 560, 3)) rfl
theorem dX16_run_27 : decode cX16_run 27 = .ok (.aload_n 0, 1) := dk_get daX16_run 17 (r := (27, .aload_n 0, 1)) rfl
theorem dX16_run_28 : decode cX16_run 28 = .ok (.iconst 0, 1) := dk_get daX16_run 18 (r := (28, .iconst 0, 1)) rfl
theorem dX16_run_29 : decode cX16_run 29 = .ok (.putfield 563, 3) := dk_get daX16_run 19 (r := (29, .putfield 563, 3)) rfl
theorem dX16_run_32 : decode cX16_run 32 = .ok (.aload_n 0, 1) := dk_get daX16_run 20 (r := (32, .aload_n 0, 1)) rfl
theorem dX16_run_33 : decode cX16_run 33 = .ok (.iconst 0, 1) := dk_get daX16_run 21 (r := (33, .iconst 0, 1)) rfl
theorem dX16_run_34 : decode cX16_run 34 = .ok (.putfield 524, 3) := dk_get daX16_run 22 (r := (34, .putfield 524, 3)) rfl
theorem dX16_run_37 : decode cX16_run 37 = .ok (.iload_n 2, 1) := dk_get daX16_run 23 (r := (37, .iload_n 2, 1)) rfl
theorem dX16_run_38 : decode cX16_run 38 = .ok (.istore 4, 2) := dk_get daX16_run 24 (r := (38, .istore 4, 2)) rfl
theorem dX16_run_40 : decode cX16_run 40 = .ok (.iload 4, 2) := dk_get daX16_run 25 (r := (40, .iload 4, 2)) rfl
theorem dX16_run_42 : decode cX16_run 42 = .ok (.aload_n 0, 1) := dk_get daX16_run 26 (r := (42, .aload_n 0, 1)) rfl
theorem dX16_run_43 : decode cX16_run 43 = .ok (.getfield 554, 3) := dk_get daX16_run 27 (r := (43, .getfield 554, 3)) rfl
theorem dX16_run_46 : decode cX16_run 46 = .ok (.if_icmp .ge 197, 3) := dk_get daX16_run 28 (r := (46, .if_icmp .ge 197, 3)) rfl
theorem dX16_run_49 : decode cX16_run 49 = .ok (.aload_n 1, 1) := dk_get daX16_run 29 (r := (49, .aload_n 1, 1)) rfl
theorem dX16_run_50 : decode cX16_run 50 = .ok (.iload 4, 2) := dk_get daX16_run 30 (r := (50, .iload 4, 2)) rfl
theorem dX16_run_52 : decode cX16_run 52 = .ok (.baload, 1) := dk_get daX16_run 31 (r := (52, .baload, 1)) rfl
theorem dX16_run_53 : decode cX16_run 53 = .ok (.sipush 255, 3) := dk_get daX16_run 32 (r := (53, .sipush 255, 3)) rfl
theorem dX16_run_56 : decode cX16_run 56 = .ok (.iand, 1) := dk_get daX16_run 33 (r := (56, .iand, 1)) rfl
theorem dX16_run_57 : decode cX16_run 57 = .ok (.istore 5, 2) := dk_get daX16_run 34 (r := (57, .istore 5, 2)) rfl
theorem dX16_run_59 : decode cX16_run 59 = .ok (.aload_n 0, 1) := dk_get daX16_run 35 (r := (59, .aload_n 0, 1)) rfl
theorem dX16_run_60 : decode cX16_run 60 = .ok (.aload_n 1, 1) := dk_get daX16_run 36 (r := (60, .aload_n 1, 1)) rfl
theorem dX16_run_61 : decode cX16_run 61 = .ok (.iload 4, 2) := dk_get daX16_run 37 (r := (61, .iload 4, 2)) rfl
theorem dX16_run_63 : decode cX16_run 63 = .ok (.aload_n 0, 1) := dk_get daX16_run 38 (r := (63, .aload_n 0, 1)) rfl
theorem dX16_run_64 : decode cX16_run 64 = .ok (.getfield 554, 3) := dk_get daX16_run 39 (r := (64, .getfield 554, 3)) rfl
theorem dX16_run_67 : decode cX16_run 67 = .ok (.invokevirtual 423, 3) := dk_get daX16_run 40 (r := (67, .invokevirtual 423, 3)) rfl
theorem dX16_run_70 : decode cX16_run 70 = .ok (.istore 6, 2) := dk_get daX16_run 41 (r := (70, .istore 6, 2)) rfl
theorem dX16_run_72 : decode cX16_run 72 = .ok (.iload 6, 2) := dk_get daX16_run 42 (r := (72, .iload 6, 2)) rfl
theorem dX16_run_74 : decode cX16_run 74 = .ok (.ifCond .lt 13, 3) := dk_get daX16_run 43 (r := (74, .ifCond .lt 13, 3)) rfl
theorem dX16_run_77 : decode cX16_run 77 = .ok (.aload_n 0, 1) := dk_get daX16_run 44 (r := (77, .aload_n 0, 1)) rfl
theorem dX16_run_78 : decode cX16_run 78 = .ok (.getfield 427, 3) := dk_get daX16_run 45 (r := (78, .getfield 427, 3)) rfl
theorem dX16_run_81 : decode cX16_run 81 = .ok (.sipush 520, 3) := dk_get daX16_run 46 (r := (81, .sipush 520, 3)) rfl
theorem dX16_run_84 : decode cX16_run 84 = .ok (.if_icmp .le 5, 3) := dk_get daX16_run 47 (r := (84, .if_icmp .le 5, 3)) rfl
theorem dX16_run_87 : decode cX16_run 87 = .ok (.iconst 0, 1) := dk_get daX16_run 48 (r := (87, .iconst 0, 1)) rfl
theorem dX16_run_88 : decode cX16_run 88 = .ok (.ireturn, 1) := dk_get daX16_run 49 (r := (88, .ireturn, 1)) rfl
theorem dX16_run_89 : decode cX16_run 89 = .ok (.iload 5, 2) := dk_get daX16_run 50 (r := (89, .iload 5, 2)) rfl
theorem dX16_run_91 : decode cX16_run 91 = .ok (.bipush 96, 2) := dk_get daX16_run 51 (r := (91, .bipush 96, 2)) rfl
theorem dX16_run_93 : decode cX16_run 93 = .ok (.if_icmp .le 13, 3) := dk_get daX16_run 52 (r := (93, .if_icmp .le 13, 3)) rfl
theorem dX16_run_96 : decode cX16_run 96 = .ok (.aload_n 0, 1) := dk_get daX16_run 53 (r := (96, .aload_n 0, 1)) rfl
theorem dX16_run_97 : decode cX16_run 97 = .ok (.dup, 1) := dk_get daX16_run 54 (r := (97, .dup, 1)) rfl
theorem dX16_run_98 : decode cX16_run 98 = .ok (.getfield 557, 3) := dk_get daX16_run 55 (r := (98, .getfield 557, 3)) rfl
theorem dX16_run_101 : decode cX16_run 101 = .ok (.iconst 1, 1) := dk_get daX16_run 56 (r := (101, .iconst 1, 1)) rfl
theorem dX16_run_102 : decode cX16_run 102 = .ok (.iadd, 1) := dk_get daX16_run 57 (r := (102, .iadd, 1)) rfl
theorem dX16_run_103 : decode cX16_run 103 = .ok (.putfield 557, 3) := dk_get daX16_run 58 (r := (103, .putfield 557, 3)) rfl
theorem dX16_run_106 : decode cX16_run 106 = .ok (.aload_n 0, 1) := dk_get daX16_run 59 (r := (106, .aload_n 0, 1)) rfl
theorem dX16_run_107 : decode cX16_run 107 = .ok (.getfield 557, 3) := dk_get daX16_run 60 (r := (107, .getfield 557, 3)) rfl
theorem dX16_run_110 : decode cX16_run 110 = .ok (.sipush 201, 3) := dk_get daX16_run 61 (r := (110, .sipush 201, 3)) rfl
theorem dX16_run_113 : decode cX16_run 113 = .ok (.if_icmp .gt 11, 3) := dk_get daX16_run 62 (r := (113, .if_icmp .gt 11, 3)) rfl
theorem dX16_run_116 : decode cX16_run 116 = .ok (.iload 5, 2) := dk_get daX16_run 63 (r := (116, .iload 5, 2)) rfl
theorem dX16_run_118 : decode cX16_run 118 = .ok (.invokestatic 566, 3) := dk_get daX16_run 64 (r := (118, .invokestatic 566, 3)) rfl
theorem dX16_run_121 : decode cX16_run 121 = .ok (.ifCond .eq 5, 3) := dk_get daX16_run 65 (r := (121, .ifCond .eq 5, 3)) rfl
theorem dX16_run_124 : decode cX16_run 124 = .ok (.iconst 0, 1) := dk_get daX16_run 66 (r := (124, .iconst 0, 1)) rfl
theorem dX16_run_125 : decode cX16_run 125 = .ok (.ireturn, 1) := dk_get daX16_run 67 (r := (125, .ireturn, 1)) rfl
theorem dX16_run_126 : decode cX16_run 126 = .ok (.iconst 1, 1) := dk_get daX16_run 68 (r := (126, .iconst 1, 1)) rfl
theorem dX16_run_127 : decode cX16_run 127 = .ok (.istore 7, 2) := dk_get daX16_run 69 (r := (127, .istore 7, 2)) rfl
theorem dX16_run_129 : decode cX16_run 129 = .ok (.iconst 0, 1) := dk_get daX16_run 70 (r := (129, .iconst 0, 1)) rfl
theorem dX16_run_130 : decode cX16_run 130 = .ok (.istore 8, 2) := dk_get daX16_run 71 (r := (130, .istore 8, 2)) rfl
theorem dX16_run_132 : decode cX16_run 132 = .ok (.iload 8, 2) := dk_get daX16_run 72 (r := (132, .iload 8, 2)) rfl
theorem dX16_run_134 : decode cX16_run 134 = .ok (.aload_n 0, 1) := dk_get daX16_run 73 (r := (134, .aload_n 0, 1)) rfl
theorem dX16_run_135 : decode cX16_run 135 = .ok (.getfield 563, 3) := dk_get daX16_run 74 (r := (135, .getfield 563, 3)) rfl
theorem dX16_run_138 : decode cX16_run 138 = .ok (.if_icmp .ge 21, 3) := dk_get daX16_run 75 (r := (138, .if_icmp .ge 21, 3)) rfl
theorem dX16_run_141 : decode cX16_run 141 = .ok (.iload 7, 2) := dk_get daX16_run 76 (r := (141, .iload 7, 2)) rfl
theorem dX16_run_143 : decode cX16_run 143 = .ok (.aload_n 0, 1) := dk_get daX16_run 77 (r := (143, .aload_n 0, 1)) rfl
theorem dX16_run_144 : decode cX16_run 144 = .ok (.getfield 570, 3) := dk_get daX16_run 78 (r := (144, .getfield 570, 3)) rfl
theorem dX16_run_147 : decode cX16_run 147 = .ok (.iload 8, 2) := dk_get daX16_run 79 (r := (147, .iload 8, 2)) rfl
theorem dX16_run_149 : decode cX16_run 149 = .ok (.baload, 1) := dk_get daX16_run 80 (r := (149, .baload, 1)) rfl
theorem dX16_run_150 : decode cX16_run 150 = .ok (.iand, 1) := dk_get daX16_run 81 (r := (150, .iand, 1)) rfl
theorem dX16_run_151 : decode cX16_run 151 = .ok (.istore 7, 2) := dk_get daX16_run 82 (r := (151, .istore 7, 2)) rfl
theorem dX16_run_153 : decode cX16_run 153 = .ok (.iinc 8 1, 3) := dk_get daX16_run 83 (r := (153, .iinc 8 1, 3)) rfl
theorem dX16_run_156 : decode cX16_run 156 = .ok (.goto (-24), 3) := dk_get daX16_run 84 (r := (156, .goto (-24), 3)) rfl
theorem dX16_run_159 : decode cX16_run 159 = .ok (.iload 5, 2) := dk_get daX16_run 85 (r := (159, .iload 5, 2)) rfl
theorem dX16_run_161 : decode cX16_run 161 = .ok (.bipush 99, 2) := dk_get daX16_run 86 (r := (161, .bipush 99, 2)) rfl
theorem dX16_run_163 : decode cX16_run 163 = .ok (.if_icmp .lt 35, 3) := dk_get daX16_run 87 (r := (163, .if_icmp .lt 35, 3)) rfl
theorem dX16_run_166 : decode cX16_run 166 = .ok (.iload 5, 2) := dk_get daX16_run 88 (r := (166, .iload 5, 2)) rfl
theorem dX16_run_168 : decode cX16_run 168 = .ok (.bipush 104, 2) := dk_get daX16_run 89 (r := (168, .bipush 104, 2)) rfl
theorem dX16_run_170 : decode cX16_run 170 = .ok (.if_icmp .gt 28, 3) := dk_get daX16_run 90 (r := (170, .if_icmp .gt 28, 3)) rfl
theorem dX16_run_173 : decode cX16_run 173 = .ok (.iload 5, 2) := dk_get daX16_run 91 (r := (173, .iload 5, 2)) rfl
theorem dX16_run_175 : decode cX16_run 175 = .ok (.bipush 101, 2) := dk_get daX16_run 92 (r := (175, .bipush 101, 2)) rfl
theorem dX16_run_177 : decode cX16_run 177 = .ok (.if_icmp .eq 21, 3) := dk_get daX16_run 93 (r := (177, .if_icmp .eq 21, 3)) rfl
theorem dX16_run_180 : decode cX16_run 180 = .ok (.iload 5, 2) := dk_get daX16_run 94 (r := (180, .iload 5, 2)) rfl
theorem dX16_run_182 : decode cX16_run 182 = .ok (.bipush 102, 2) := dk_get daX16_run 95 (r := (182, .bipush 102, 2)) rfl
theorem dX16_run_184 : decode cX16_run 184 = .ok (.if_icmp .eq 14, 3) := dk_get daX16_run 96 (r := (184, .if_icmp .eq 14, 3)) rfl
theorem dX16_run_187 : decode cX16_run 187 = .ok (.aload_n 0, 1) := dk_get daX16_run 97 (r := (187, .aload_n 0, 1)) rfl
theorem dX16_run_188 : decode cX16_run 188 = .ok (.iload 5, 2) := dk_get daX16_run 98 (r := (188, .iload 5, 2)) rfl
theorem dX16_run_190 : decode cX16_run 190 = .ok (.iload 7, 2) := dk_get daX16_run 99 (r := (190, .iload 7, 2)) rfl
theorem dX16_run_192 : decode cX16_run 192 = .ok (.invokevirtual 574, 3) := dk_get daX16_run 100 (r := (192, .invokevirtual 574, 3)) rfl
theorem dX16_run_195 : decode cX16_run 195 = .ok (.goto 17, 3) := dk_get daX16_run 101 (r := (195, .goto 17, 3)) rfl
theorem dX16_run_198 : decode cX16_run 198 = .ok (.iload 7, 2) := dk_get daX16_run 102 (r := (198, .iload 7, 2)) rfl
theorem dX16_run_200 : decode cX16_run 200 = .ok (.ifCond .eq 12, 3) := dk_get daX16_run 103 (r := (200, .ifCond .eq 12, 3)) rfl
theorem dX16_run_203 : decode cX16_run 203 = .ok (.aload_n 0, 1) := dk_get daX16_run 104 (r := (203, .aload_n 0, 1)) rfl
theorem dX16_run_204 : decode cX16_run 204 = .ok (.iload 5, 2) := dk_get daX16_run 105 (r := (204, .iload 5, 2)) rfl
theorem dX16_run_206 : decode cX16_run 206 = .ok (.aload_n 1, 1) := dk_get daX16_run 106 (r := (206, .aload_n 1, 1)) rfl
theorem dX16_run_207 : decode cX16_run 207 = .ok (.iload 6, 2) := dk_get daX16_run 107 (r := (207, .iload 6, 2)) rfl
theorem dX16_run_209 : decode cX16_run 209 = .ok (.invokevirtual 578, 3) := dk_get daX16_run 108 (r := (209, .invokevirtual 578, 3)) rfl
theorem dX16_run_212 : decode cX16_run 212 = .ok (.aload_n 0, 1) := dk_get daX16_run 109 (r := (212, .aload_n 0, 1)) rfl
theorem dX16_run_213 : decode cX16_run 213 = .ok (.getfield 524, 3) := dk_get daX16_run 110 (r := (213, .getfield 524, 3)) rfl
theorem dX16_run_216 : decode cX16_run 216 = .ok (.ifCond .ne 18, 3) := dk_get daX16_run 111 (r := (216, .ifCond .ne 18, 3)) rfl
theorem dX16_run_219 : decode cX16_run 219 = .ok (.aload_n 0, 1) := dk_get daX16_run 112 (r := (219, .aload_n 0, 1)) rfl
theorem dX16_run_220 : decode cX16_run 220 = .ok (.getfield 521, 3) := dk_get daX16_run 113 (r := (220, .getfield 521, 3)) rfl
theorem dX16_run_223 : decode cX16_run 223 = .ok (.aload_n 0, 1) := dk_get daX16_run 114 (r := (223, .aload_n 0, 1)) rfl
theorem dX16_run_224 : decode cX16_run 224 = .ok (.getfield 560, 3) := dk_get daX16_run 115 (r := (224, .getfield 560, 3)) rfl
theorem dX16_run_227 : decode cX16_run 227 = .ok (.iadd, 1) := dk_get daX16_run 116 (r := (227, .iadd, 1)) rfl
theorem dX16_run_228 : decode cX16_run 228 = .ok (.sipush 1000, 3) := dk_get daX16_run 117 (r := (228, .sipush 1000, 3)) rfl
theorem dX16_run_231 : decode cX16_run 231 = .ok (.if_icmp .le 5, 3) := dk_get daX16_run 118 (r := (231, .if_icmp .le 5, 3)) rfl
theorem dX16_run_234 : decode cX16_run 234 = .ok (.iconst 0, 1) := dk_get daX16_run 119 (r := (234, .iconst 0, 1)) rfl
theorem dX16_run_235 : decode cX16_run 235 = .ok (.ireturn, 1) := dk_get daX16_run 120 (r := (235, .ireturn, 1)) rfl
theorem dX16_run_236 : decode cX16_run 236 = .ok (.iload 6, 2) := dk_get daX16_run 121 (r := (236, .iload 6, 2)) rfl
theorem dX16_run_238 : decode cX16_run 238 = .ok (.istore 4, 2) := dk_get daX16_run 122 (r := (238, .istore 4, 2)) rfl
theorem dX16_run_240 : decode cX16_run 240 = .ok (.goto (-200), 3) := dk_get daX16_run 123 (r := (240, .goto (-200), 3)) rfl
theorem dX16_run_243 : decode cX16_run 243 = .ok (.aload_n 0, 1) := dk_get daX16_run 124 (r := (243, .aload_n 0, 1)) rfl
theorem dX16_run_244 : decode cX16_run 244 = .ok (.getfield 563, 3) := dk_get daX16_run 125 (r := (244, .getfield 563, 3)) rfl
theorem dX16_run_247 : decode cX16_run 247 = .ok (.ifCond .ne 7, 3) := dk_get daX16_run 126 (r := (247, .ifCond .ne 7, 3)) rfl
theorem dX16_run_250 : decode cX16_run 250 = .ok (.iconst 1, 1) := dk_get daX16_run 127 (r := (250, .iconst 1, 1)) rfl
theorem dX16_run_251 : decode cX16_run 251 = .ok (.goto 4, 3) := dk_get daX16_run 128 (r := (251, .goto 4, 3)) rfl
theorem dX16_run_254 : decode cX16_run 254 = .ok (.iconst 0, 1) := dk_get daX16_run 129 (r := (254, .iconst 0, 1)) rfl
theorem dX16_run_255 : decode cX16_run 255 = .ok (.ireturn, 1) := dk_get daX16_run 130 (r := (255, .ireturn, 1)) rfl
abbrev mX16_branch : ks_M := (RX16, cX16_branch, 4, none, "branch")
def drX16_branch : List (Nat × Instr × Nat) := [(0, .iload_n 1, 1), (1, .bipush 99, 2), (3, .if_icmp .eq 9, 3), (6, .iload_n 1, 1), (7, .bipush 100, 2), (9, .if_icmp .ne 74, 3), (12, .iconst 0, 1), (13, .istore_n 3, 1), (14, .iload_n 2, 1), (15, .ifCond .eq 47, 3), (18, .aload_n 0, 1), (19, .iconst 1, 1), (20, .invokevirtual 582, 3), (23, .ifCond .ne 4, 3), (26, .return_, 1), (27, .aload_n 0, 1), (28, .iconst 0, 1), (29, .invokevirtual 585, 3), (32, .iload_n 1, 1), (33, .bipush 99, 2), (35, .if_icmp .ne 7, 3), (38, .iconst 1, 1), (39, .goto 4, 3), (42, .iconst 0, 1), (43, .if_icmp .ne 7, 3), (46, .iconst 1, 1), (47, .goto 4, 3), (50, .iconst 0, 1), (51, .istore_n 3, 1), (52, .aload_n 0, 1), (53, .dup, 1), (54, .getfield 521, 3), (57, .iconst 1, 1), (58, .isub, 1), (59, .putfield 521, 3), (62, .aload_n 0, 1), (63, .getfield 570, 3), (66, .aload_n 0, 1), (67, .getfield 563, 3), (70, .iload_n 3, 1), (71, .bastore, 1), (72, .aload_n 0, 1), (73, .dup, 1), (74, .getfield 563, 3), (77, .iconst 1, 1), (78, .iadd, 1), (79, .putfield 563, 3), (82, .return_, 1), (83, .aload_n 0, 1), (84, .getfield 563, 3), (87, .ifCond .ne 9, 3), (90, .aload_n 0, 1), (91, .iconst 1, 1), (92, .putfield 524, 3), (95, .return_, 1), (96, .iload_n 1, 1), (97, .bipush 103, 2), (99, .if_icmp .ne 36, 3), (102, .aload_n 0, 1), (103, .getfield 570, 3), (106, .aload_n 0, 1), (107, .getfield 563, 3), (110, .iconst 1, 1), (111, .isub, 1), (112, .aload_n 0, 1), (113, .getfield 570, 3), (116, .aload_n 0, 1), (117, .getfield 563, 3), (120, .iconst 1, 1), (121, .isub, 1), (122, .baload, 1), (123, .ifCond .ne 7, 3), (126, .iconst 1, 1), (127, .goto 4, 3), (130, .iconst 0, 1), (131, .bastore, 1), (132, .goto 13, 3), (135, .aload_n 0, 1), (136, .dup, 1), (137, .getfield 563, 3), (140, .iconst 1, 1), (141, .isub, 1), (142, .putfield 563, 3), (145, .return_, 1)]
set_option maxRecDepth 100000 in
theorem daX16_branch : dk_all cX16_branch drX16_branch = true := by decide +kernel
theorem dX16_branch_0 : decode cX16_branch 0 = .ok (.iload_n 1, 1) := dk_get daX16_branch 0 (r := (0, .iload_n 1, 1)) rfl
theorem dX16_branch_1 : decode cX16_branch 1 = .ok (.bipush 99, 2) := dk_get daX16_branch 1 (r := (1, .bipush 99, 2)) rfl
theorem dX16_branch_3 : decode cX16_branch 3 = .ok (.if_icmp .eq 9, 3) := dk_get daX16_branch 2 (r := (3, .if_icmp .eq 9, 3)) rfl
theorem dX16_branch_6 : decode cX16_branch 6 = .ok (.iload_n 1, 1) := dk_get daX16_branch 3 (r := (6, .iload_n 1, 1)) rfl
theorem dX16_branch_7 : decode cX16_branch 7 = .ok (.bipush 100, 2) := dk_get daX16_branch 4 (r := (7, .bipush 100, 2)) rfl
theorem dX16_branch_9 : decode cX16_branch 9 = .ok (.if_icmp .ne 74, 3) := dk_get daX16_branch 5 (r := (9, .if_icmp .ne 74, 3)) rfl
theorem dX16_branch_12 : decode cX16_branch 12 = .ok (.iconst 0, 1) := dk_get daX16_branch 6 (r := (12, .iconst 0, 1)) rfl
theorem dX16_branch_13 : decode cX16_branch 13 = .ok (.istore_n 3, 1) := dk_get daX16_branch 7 (r := (13, .istore_n 3, 1)) rfl
theorem dX16_branch_14 : decode cX16_branch 14 = .ok (.iload_n 2, 1) := dk_get daX16_branch 8 (r := (14, .iload_n 2, 1)) rfl
theorem dX16_branch_15 : decode cX16_branch 15 = .ok (.ifCond .eq 47, 3) := dk_get daX16_branch 9 (r := (15, .ifCond .eq 47, 3)) rfl
theorem dX16_branch_18 : decode cX16_branch 18 = .ok (.aload_n 0, 1) := dk_get daX16_branch 10 (r := (18, .aload_n 0, 1)) rfl
theorem dX16_branch_19 : decode cX16_branch 19 = .ok (.iconst 1, 1) := dk_get daX16_branch 11 (r := (19, .iconst 1, 1)) rfl
theorem dX16_branch_20 : decode cX16_branch 20 = .ok (.invokevirtual 582, 3) := dk_get daX16_branch 12 (r := (20, .invokevirtual 582, 3)) rfl
theorem dX16_branch_23 : decode cX16_branch 23 = .ok (.ifCond .ne 4, 3) := dk_get daX16_branch 13 (r := (23, .ifCond .ne 4, 3)) rfl
theorem dX16_branch_26 : decode cX16_branch 26 = .ok (.return_, 1) := dk_get daX16_branch 14 (r := (26, .return_, 1)) rfl
theorem dX16_branch_27 : decode cX16_branch 27 = .ok (.aload_n 0, 1) := dk_get daX16_branch 15 (r := (27, .aload_n 0, 1)) rfl
theorem dX16_branch_28 : decode cX16_branch 28 = .ok (.iconst 0, 1) := dk_get daX16_branch 16 (r := (28, .iconst 0, 1)) rfl
theorem dX16_branch_29 : decode cX16_branch 29 = .ok (.invokevirtual 585, 3) := dk_get daX16_branch 17 (r := (29, .invokevirtual 585, 3)) rfl
theorem dX16_branch_32 : decode cX16_branch 32 = .ok (.iload_n 1, 1) := dk_get daX16_branch 18 (r := (32, .iload_n 1, 1)) rfl
theorem dX16_branch_33 : decode cX16_branch 33 = .ok (.bipush 99, 2) := dk_get daX16_branch 19 (r := (33, .bipush 99, 2)) rfl
theorem dX16_branch_35 : decode cX16_branch 35 = .ok (.if_icmp .ne 7, 3) := dk_get daX16_branch 20 (r := (35, .if_icmp .ne 7, 3)) rfl
theorem dX16_branch_38 : decode cX16_branch 38 = .ok (.iconst 1, 1) := dk_get daX16_branch 21 (r := (38, .iconst 1, 1)) rfl
theorem dX16_branch_39 : decode cX16_branch 39 = .ok (.goto 4, 3) := dk_get daX16_branch 22 (r := (39, .goto 4, 3)) rfl
theorem dX16_branch_42 : decode cX16_branch 42 = .ok (.iconst 0, 1) := dk_get daX16_branch 23 (r := (42, .iconst 0, 1)) rfl
theorem dX16_branch_43 : decode cX16_branch 43 = .ok (.if_icmp .ne 7, 3) := dk_get daX16_branch 24 (r := (43, .if_icmp .ne 7, 3)) rfl
theorem dX16_branch_46 : decode cX16_branch 46 = .ok (.iconst 1, 1) := dk_get daX16_branch 25 (r := (46, .iconst 1, 1)) rfl
theorem dX16_branch_47 : decode cX16_branch 47 = .ok (.goto 4, 3) := dk_get daX16_branch 26 (r := (47, .goto 4, 3)) rfl
theorem dX16_branch_50 : decode cX16_branch 50 = .ok (.iconst 0, 1) := dk_get daX16_branch 27 (r := (50, .iconst 0, 1)) rfl
theorem dX16_branch_51 : decode cX16_branch 51 = .ok (.istore_n 3, 1) := dk_get daX16_branch 28 (r := (51, .istore_n 3, 1)) rfl
theorem dX16_branch_52 : decode cX16_branch 52 = .ok (.aload_n 0, 1) := dk_get daX16_branch 29 (r := (52, .aload_n 0, 1)) rfl
theorem dX16_branch_53 : decode cX16_branch 53 = .ok (.dup, 1) := dk_get daX16_branch 30 (r := (53, .dup, 1)) rfl
theorem dX16_branch_54 : decode cX16_branch 54 = .ok (.getfield 521, 3) := dk_get daX16_branch 31 (r := (54, .getfield 521, 3)) rfl
theorem dX16_branch_57 : decode cX16_branch 57 = .ok (.iconst 1, 1) := dk_get daX16_branch 32 (r := (57, .iconst 1, 1)) rfl
theorem dX16_branch_58 : decode cX16_branch 58 = .ok (.isub, 1) := dk_get daX16_branch 33 (r := (58, .isub, 1)) rfl
theorem dX16_branch_59 : decode cX16_branch 59 = .ok (.putfield 521, 3) := dk_get daX16_branch 34 (r := (59, .putfield 521, 3)) rfl
theorem dX16_branch_62 : decode cX16_branch 62 = .ok (.aload_n 0, 1) := dk_get daX16_branch 35 (r := (62, .aload_n 0, 1)) rfl
theorem dX16_branch_63 : decode cX16_branch 63 = .ok (.getfield 570, 3) := dk_get daX16_branch 36 (r := (63, .getfield 570, 3)) rfl
theorem dX16_branch_66 : decode cX16_branch 66 = .ok (.aload_n 0, 1) := dk_get daX16_branch 37 (r := (66, .aload_n 0, 1)) rfl
theorem dX16_branch_67 : decode cX16_branch 67 = .ok (.getfield 563, 3) := dk_get daX16_branch 38 (r := (67, .getfield 563, 3)) rfl
theorem dX16_branch_70 : decode cX16_branch 70 = .ok (.iload_n 3, 1) := dk_get daX16_branch 39 (r := (70, .iload_n 3, 1)) rfl
theorem dX16_branch_71 : decode cX16_branch 71 = .ok (.bastore, 1) := dk_get daX16_branch 40 (r := (71, .bastore, 1)) rfl
theorem dX16_branch_72 : decode cX16_branch 72 = .ok (.aload_n 0, 1) := dk_get daX16_branch 41 (r := (72, .aload_n 0, 1)) rfl
theorem dX16_branch_73 : decode cX16_branch 73 = .ok (.dup, 1) := dk_get daX16_branch 42 (r := (73, .dup, 1)) rfl
theorem dX16_branch_74 : decode cX16_branch 74 = .ok (.getfield 563, 3) := dk_get daX16_branch 43 (r := (74, .getfield 563, 3)) rfl
theorem dX16_branch_77 : decode cX16_branch 77 = .ok (.iconst 1, 1) := dk_get daX16_branch 44 (r := (77, .iconst 1, 1)) rfl
theorem dX16_branch_78 : decode cX16_branch 78 = .ok (.iadd, 1) := dk_get daX16_branch 45 (r := (78, .iadd, 1)) rfl
theorem dX16_branch_79 : decode cX16_branch 79 = .ok (.putfield 563, 3) := dk_get daX16_branch 46 (r := (79, .putfield 563, 3)) rfl
theorem dX16_branch_82 : decode cX16_branch 82 = .ok (.return_, 1) := dk_get daX16_branch 47 (r := (82, .return_, 1)) rfl
theorem dX16_branch_83 : decode cX16_branch 83 = .ok (.aload_n 0, 1) := dk_get daX16_branch 48 (r := (83, .aload_n 0, 1)) rfl
theorem dX16_branch_84 : decode cX16_branch 84 = .ok (.getfield 563, 3) := dk_get daX16_branch 49 (r := (84, .getfield 563, 3)) rfl
theorem dX16_branch_87 : decode cX16_branch 87 = .ok (.ifCond .ne 9, 3) := dk_get daX16_branch 50 (r := (87, .ifCond .ne 9, 3)) rfl
theorem dX16_branch_90 : decode cX16_branch 90 = .ok (.aload_n 0, 1) := dk_get daX16_branch 51 (r := (90, .aload_n 0, 1)) rfl
theorem dX16_branch_91 : decode cX16_branch 91 = .ok (.iconst 1, 1) := dk_get daX16_branch 52 (r := (91, .iconst 1, 1)) rfl
theorem dX16_branch_92 : decode cX16_branch 92 = .ok (.putfield 524, 3) := dk_get daX16_branch 53 (r := (92, .putfield 524, 3)) rfl
theorem dX16_branch_95 : decode cX16_branch 95 = .ok (.return_, 1) := dk_get daX16_branch 54 (r := (95, .return_, 1)) rfl
theorem dX16_branch_96 : decode cX16_branch 96 = .ok (.iload_n 1, 1) := dk_get daX16_branch 55 (r := (96, .iload_n 1, 1)) rfl
theorem dX16_branch_97 : decode cX16_branch 97 = .ok (.bipush 103, 2) := dk_get daX16_branch 56 (r := (97, .bipush 103, 2)) rfl
theorem dX16_branch_99 : decode cX16_branch 99 = .ok (.if_icmp .ne 36, 3) := dk_get daX16_branch 57 (r := (99, .if_icmp .ne 36, 3)) rfl
theorem dX16_branch_102 : decode cX16_branch 102 = .ok (.aload_n 0, 1) := dk_get daX16_branch 58 (r := (102, .aload_n 0, 1)) rfl
theorem dX16_branch_103 : decode cX16_branch 103 = .ok (.getfield 570, 3) := dk_get daX16_branch 59 (r := (103, .getfield 570, 3)) rfl
theorem dX16_branch_106 : decode cX16_branch 106 = .ok (.aload_n 0, 1) := dk_get daX16_branch 60 (r := (106, .aload_n 0, 1)) rfl
theorem dX16_branch_107 : decode cX16_branch 107 = .ok (.getfield 563, 3) := dk_get daX16_branch 61 (r := (107, .getfield 563, 3)) rfl
theorem dX16_branch_110 : decode cX16_branch 110 = .ok (.iconst 1, 1) := dk_get daX16_branch 62 (r := (110, .iconst 1, 1)) rfl
theorem dX16_branch_111 : decode cX16_branch 111 = .ok (.isub, 1) := dk_get daX16_branch 63 (r := (111, .isub, 1)) rfl
theorem dX16_branch_112 : decode cX16_branch 112 = .ok (.aload_n 0, 1) := dk_get daX16_branch 64 (r := (112, .aload_n 0, 1)) rfl
theorem dX16_branch_113 : decode cX16_branch 113 = .ok (.getfield 570, 3) := dk_get daX16_branch 65 (r := (113, .getfield 570, 3)) rfl
theorem dX16_branch_116 : decode cX16_branch 116 = .ok (.aload_n 0, 1) := dk_get daX16_branch 66 (r := (116, .aload_n 0, 1)) rfl
theorem dX16_branch_117 : decode cX16_branch 117 = .ok (.getfield 563, 3) := dk_get daX16_branch 67 (r := (117, .getfield 563, 3)) rfl
theorem dX16_branch_120 : decode cX16_branch 120 = .ok (.iconst 1, 1) := dk_get daX16_branch 68 (r := (120, .iconst 1, 1)) rfl
theorem dX16_branch_121 : decode cX16_branch 121 = .ok (.isub, 1) := dk_get daX16_branch 69 (r := (121, .isub, 1)) rfl
theorem dX16_branch_122 : decode cX16_branch 122 = .ok (.baload, 1) := dk_get daX16_branch 70 (r := (122, .baload, 1)) rfl
theorem dX16_branch_123 : decode cX16_branch 123 = .ok (.ifCond .ne 7, 3) := dk_get daX16_branch 71 (r := (123, .ifCond .ne 7, 3)) rfl
theorem dX16_branch_126 : decode cX16_branch 126 = .ok (.iconst 1, 1) := dk_get daX16_branch 72 (r := (126, .iconst 1, 1)) rfl
theorem dX16_branch_127 : decode cX16_branch 127 = .ok (.goto 4, 3) := dk_get daX16_branch 73 (r := (127, .goto 4, 3)) rfl
theorem dX16_branch_130 : decode cX16_branch 130 = .ok (.iconst 0, 1) := dk_get daX16_branch 74 (r := (130, .iconst 0, 1)) rfl
theorem dX16_branch_131 : decode cX16_branch 131 = .ok (.bastore, 1) := dk_get daX16_branch 75 (r := (131, .bastore, 1)) rfl
theorem dX16_branch_132 : decode cX16_branch 132 = .ok (.goto 13, 3) := dk_get daX16_branch 76 (r := (132, .goto 13, 3)) rfl
theorem dX16_branch_135 : decode cX16_branch 135 = .ok (.aload_n 0, 1) := dk_get daX16_branch 77 (r := (135, .aload_n 0, 1)) rfl
theorem dX16_branch_136 : decode cX16_branch 136 = .ok (.dup, 1) := dk_get daX16_branch 78 (r := (136, .dup, 1)) rfl
theorem dX16_branch_137 : decode cX16_branch 137 = .ok (.getfield 563, 3) := dk_get daX16_branch 79 (r := (137, .getfield 563, 3)) rfl
theorem dX16_branch_140 : decode cX16_branch 140 = .ok (.iconst 1, 1) := dk_get daX16_branch 80 (r := (140, .iconst 1, 1)) rfl
theorem dX16_branch_141 : decode cX16_branch 141 = .ok (.isub, 1) := dk_get daX16_branch 81 (r := (141, .isub, 1)) rfl
theorem dX16_branch_142 : decode cX16_branch 142 = .ok (.putfield 563, 3) := dk_get daX16_branch 82 (r := (142, .putfield 563, 3)) rfl
theorem dX16_branch_145 : decode cX16_branch 145 = .ok (.return_, 1) := dk_get daX16_branch 83 (r := (145, .return_, 1)) rfl
abbrev mX16_answer : ks_M := (RX16, cX16_answer, 3, none, "answer")
def drX16_answer : List (Nat × Instr × Nat) := [(0, .iload_n 2, 1), (1, .ifCond .eq 24, 3), (4, .aload_n 0, 1), (5, .dup, 1), (6, .getfield 524, 3), (9, .iload_n 1, 1), (10, .ifCond .ne 7, 3), (13, .iconst 1, 1), (14, .goto 4, 3), (17, .iconst 0, 1), (18, .ior, 1), (19, .putfield 524, 3), (22, .goto 8, 3), (25, .aload_n 0, 1), (26, .iload_n 1, 1), (27, .invokevirtual 599, 3), (30, .return_, 1)]
set_option maxRecDepth 100000 in
theorem daX16_answer : dk_all cX16_answer drX16_answer = true := by decide +kernel
theorem dX16_answer_0 : decode cX16_answer 0 = .ok (.iload_n 2, 1) := dk_get daX16_answer 0 (r := (0, .iload_n 2, 1)) rfl
theorem dX16_answer_1 : decode cX16_answer 1 = .ok (.ifCond .eq 24, 3) := dk_get daX16_answer 1 (r := (1, .ifCond .eq 24, 3)) rfl
theorem dX16_answer_4 : decode cX16_answer 4 = .ok (.aload_n 0, 1) := dk_get daX16_answer 2 (r := (4, .aload_n 0, 1)) rfl
theorem dX16_answer_5 : decode cX16_answer 5 = .ok (.dup, 1) := dk_get daX16_answer 3 (r := (5, .dup, 1)) rfl
theorem dX16_answer_6 : decode cX16_answer 6 = .ok (.getfield 524, 3) := dk_get daX16_answer 4 (r := (6, .getfield 524, 3)) rfl
theorem dX16_answer_9 : decode cX16_answer 9 = .ok (.iload_n 1, 1) := dk_get daX16_answer 5 (r := (9, .iload_n 1, 1)) rfl
theorem dX16_answer_10 : decode cX16_answer 10 = .ok (.ifCond .ne 7, 3) := dk_get daX16_answer 6 (r := (10, .ifCond .ne 7, 3)) rfl
theorem dX16_answer_13 : decode cX16_answer 13 = .ok (.iconst 1, 1) := dk_get daX16_answer 7 (r := (13, .iconst 1, 1)) rfl
theorem dX16_answer_14 : decode cX16_answer 14 = .ok (.goto 4, 3) := dk_get daX16_answer 8 (r := (14, .goto 4, 3)) rfl
theorem dX16_answer_17 : decode cX16_answer 17 = .ok (.iconst 0, 1) := dk_get daX16_answer 9 (r := (17, .iconst 0, 1)) rfl
theorem dX16_answer_18 : decode cX16_answer 18 = .ok (.ior, 1) := dk_get daX16_answer 10 (r := (18, .ior, 1)) rfl
theorem dX16_answer_19 : decode cX16_answer 19 = .ok (.putfield 524, 3) := dk_get daX16_answer 11 (r := (19, .putfield 524, 3)) rfl
theorem dX16_answer_22 : decode cX16_answer 22 = .ok (.goto 8, 3) := dk_get daX16_answer 12 (r := (22, .goto 8, 3)) rfl
theorem dX16_answer_25 : decode cX16_answer 25 = .ok (.aload_n 0, 1) := dk_get daX16_answer 13 (r := (25, .aload_n 0, 1)) rfl
theorem dX16_answer_26 : decode cX16_answer 26 = .ok (.iload_n 1, 1) := dk_get daX16_answer 14 (r := (26, .iload_n 1, 1)) rfl
theorem dX16_answer_27 : decode cX16_answer 27 = .ok (.invokevirtual 599, 3) := dk_get daX16_answer 15 (r := (27, .invokevirtual 599, 3)) rfl
theorem dX16_answer_30 : decode cX16_answer 30 = .ok (.return_, 1) := dk_get daX16_answer 16 (r := (30, .return_, 1)) rfl
set_option maxRecDepth 100000 in
theorem kx_34 : (Jvm.Cond.initialized "CoinJudgeModel$Block") ∈ lw_tbl := List.mem_append_right _ (List.mem_of_getElem? (i := 34) (by rfl))
set_option maxRecDepth 100000 in
theorem kx_1805 : (Jvm.Cond.classLink "CoinJudgeModel" (352 : Nat) "CoinJudgeModel$Block") ∈ lw_tbl := List.mem_append_right _ (List.mem_of_getElem? (i := 1805) (by rfl))
set_option maxRecDepth 100000 in
theorem kx_1958 : (Jvm.Cond.constantLong "CoinJudgeModel" (485 : Nat) (5000000000 : Int64)) ∈ lw_tbl := List.mem_append_right _ (List.mem_of_getElem? (i := 1958) (by rfl))
set_option maxRecDepth 100000 in
theorem kx_2008 : (Jvm.Cond.methodLink "CoinJudgeModel" (441 : Nat) ({ cls := "CoinJudgeModel", name := "root", desc := "([BI)V" } : Jvm.MethodName)) ∈ lw_tbl := List.mem_append_right _ (List.mem_of_getElem? (i := 2008) (by rfl))
set_option maxRecDepth 100000 in
theorem kx_2010 : (Jvm.Cond.instanceMethod ({ cls := "CoinJudgeModel", name := "root", desc := "([BI)V" } : Jvm.MethodName)) ∈ lw_tbl := List.mem_append_right _ (List.mem_of_getElem? (i := 2010) (by rfl))
set_option maxRecDepth 100000 in
theorem kx_2012 : (Jvm.Cond.methodLink "CoinJudgeModel" (435 : Nat) ({ cls := "CoinJudgeModel", name := "due", desc := "(I)I" } : Jvm.MethodName)) ∈ lw_tbl := List.mem_append_right _ (List.mem_of_getElem? (i := 2012) (by rfl))
set_option maxRecDepth 100000 in
theorem kx_2014 : (Jvm.Cond.instanceMethod ({ cls := "CoinJudgeModel", name := "due", desc := "(I)I" } : Jvm.MethodName)) ∈ lw_tbl := List.mem_append_right _ (List.mem_of_getElem? (i := 2014) (by rfl))
set_option maxRecDepth 100000 in
theorem kx_2049 : (Jvm.Cond.code ({ cls := "CoinJudgeModel", name := "keep", desc := "([BII)V" } : Jvm.MethodName) prog_14_method_57_code (6 : Nat) (Option.none : Option Jvm.ClassFile.FieldType)) ∈ lw_tbl := List.mem_append_right _ (List.mem_of_getElem? (i := 2049) (by rfl))
set_option maxRecDepth 100000 in
theorem kx_2050 : (Jvm.Cond.instantiable "CoinJudgeModel$Block" (9 : Nat)) ∈ lw_tbl := List.mem_append_right _ (List.mem_of_getElem? (i := 2050) (by rfl))
set_option maxRecDepth 100000 in
theorem kx_2051 : (Jvm.Cond.methodLinkNest "CoinJudgeModel" (503 : Nat) ({ cls := "CoinJudgeModel$Block", name := "<init>", desc := "()V" } : Jvm.MethodName) "CoinJudgeModel") ∈ lw_tbl := List.mem_append_right _ (List.mem_of_getElem? (i := 2051) (by rfl))
set_option maxRecDepth 100000 in
theorem kx_2052 : (Jvm.Cond.instanceMethod ({ cls := "CoinJudgeModel$Block", name := "<init>", desc := "()V" } : Jvm.MethodName)) ∈ lw_tbl := List.mem_append_right _ (List.mem_of_getElem? (i := 2052) (by rfl))
set_option maxRecDepth 100000 in
theorem kx_2059 : (Jvm.Cond.fieldLinkNest "CoinJudgeModel" (507 : Nat) "CoinJudgeModel$Block" "length" "I" "CoinJudgeModel") ∈ lw_tbl := List.mem_append_right _ (List.mem_of_getElem? (i := 2059) (by rfl))
set_option maxRecDepth 100000 in
theorem kx_2063 : (Jvm.Cond.fieldLinkNest "CoinJudgeModel" (457 : Nat) "CoinJudgeModel$Block" "parsed" "LCoinJudgeModel$Parsed;" "CoinJudgeModel") ∈ lw_tbl := List.mem_append_right _ (List.mem_of_getElem? (i := 2063) (by rfl))
set_option maxRecDepth 100000 in
theorem kx_2066 : (Jvm.Cond.fieldLinkNest "CoinJudgeModel" (432 : Nat) "CoinJudgeModel$Block" "bad" "Z" "CoinJudgeModel") ∈ lw_tbl := List.mem_append_right _ (List.mem_of_getElem? (i := 2066) (by rfl))
set_option maxRecDepth 100000 in
theorem kx_2067 : (Jvm.Cond.fieldLinkNest "CoinJudgeModel" (474 : Nat) "CoinJudgeModel$Block" "checked" "Z" "CoinJudgeModel") ∈ lw_tbl := List.mem_append_right _ (List.mem_of_getElem? (i := 2067) (by rfl))
set_option maxRecDepth 100000 in
theorem kx_2069 : (Jvm.Cond.fieldLinkNest "CoinJudgeModel" (517 : Nat) "CoinJudgeModel$Block" "work" "[I" "CoinJudgeModel") ∈ lw_tbl := List.mem_append_right _ (List.mem_of_getElem? (i := 2069) (by rfl))
set_option maxRecDepth 100000 in
theorem kx_2089 : (Jvm.Cond.methodLink "CoinJudgeModel" (510 : Nat) ({ cls := "CoinJudgeModel", name := "parse", desc := "([BILCoinJudgeModel$Parsed;)Z" } : Jvm.MethodName)) ∈ lw_tbl := List.mem_append_right _ (List.mem_of_getElem? (i := 2089) (by rfl))
set_option maxRecDepth 100000 in
theorem kx_2091 : (Jvm.Cond.instanceMethod ({ cls := "CoinJudgeModel", name := "parse", desc := "([BILCoinJudgeModel$Parsed;)Z" } : Jvm.MethodName)) ∈ lw_tbl := List.mem_append_right _ (List.mem_of_getElem? (i := 2091) (by rfl))
set_option maxRecDepth 100000 in
theorem kx_2112 : (Jvm.Cond.methodLink "CoinJudgeModel" (519 : Nat) ({ cls := "CoinJudgeModel", name := "work", desc := "([I[I)V" } : Jvm.MethodName)) ∈ lw_tbl := List.mem_append_right _ (List.mem_of_getElem? (i := 2112) (by rfl))
set_option maxRecDepth 100000 in
theorem kx_2114 : (Jvm.Cond.instanceMethod ({ cls := "CoinJudgeModel", name := "work", desc := "([I[I)V" } : Jvm.MethodName)) ∈ lw_tbl := List.mem_append_right _ (List.mem_of_getElem? (i := 2114) (by rfl))
set_option maxRecDepth 100000 in
theorem kx_2118 : (Jvm.Cond.methodLink "CoinJudgeModel" (490 : Nat) ({ cls := "CoinJudgeModel", name := "connect", desc := "(I)I" } : Jvm.MethodName)) ∈ lw_tbl := List.mem_append_right _ (List.mem_of_getElem? (i := 2118) (by rfl))
set_option maxRecDepth 100000 in
theorem kx_2120 : (Jvm.Cond.instanceMethod ({ cls := "CoinJudgeModel", name := "connect", desc := "(I)I" } : Jvm.MethodName)) ∈ lw_tbl := List.mem_append_right _ (List.mem_of_getElem? (i := 2120) (by rfl))
set_option maxRecDepth 100000 in
theorem kx_2121 : (Jvm.Cond.code ({ cls := "CoinJudgeModel", name := "connect", desc := "(I)I" } : Jvm.MethodName) prog_14_method_54_code (14 : Nat) (Option.some Jvm.ClassFile.FieldType.int)) ∈ lw_tbl := List.mem_append_right _ (List.mem_of_getElem? (i := 2121) (by rfl))
set_option maxRecDepth 100000 in
theorem kx_2130 : (Jvm.Cond.methodLink "CoinJudgeModel" (467 : Nat) ({ cls := "CoinJudgeModel", name := "findCoin", desc := "([BIJ[II)I" } : Jvm.MethodName)) ∈ lw_tbl := List.mem_append_right _ (List.mem_of_getElem? (i := 2130) (by rfl))
set_option maxRecDepth 100000 in
theorem kx_2132 : (Jvm.Cond.instanceMethod ({ cls := "CoinJudgeModel", name := "findCoin", desc := "([BIJ[II)I" } : Jvm.MethodName)) ∈ lw_tbl := List.mem_append_right _ (List.mem_of_getElem? (i := 2132) (by rfl))
set_option maxRecDepth 100000 in
theorem kx_2133 : (Jvm.Cond.code ({ cls := "CoinJudgeModel", name := "findCoin", desc := "([BIJ[II)I" } : Jvm.MethodName) prog_14_method_52_code (9 : Nat) (Option.some Jvm.ClassFile.FieldType.int)) ∈ lw_tbl := List.mem_append_right _ (List.mem_of_getElem? (i := 2133) (by rfl))
set_option maxRecDepth 100000 in
theorem kx_2137 : (Jvm.Cond.methodLink "CoinJudgeModel" (471 : Nat) ({ cls := "CoinJudgeModel", name := "valueOf", desc := "(I)J" } : Jvm.MethodName)) ∈ lw_tbl := List.mem_append_right _ (List.mem_of_getElem? (i := 2137) (by rfl))
set_option maxRecDepth 100000 in
theorem kx_2139 : (Jvm.Cond.instanceMethod ({ cls := "CoinJudgeModel", name := "valueOf", desc := "(I)J" } : Jvm.MethodName)) ∈ lw_tbl := List.mem_append_right _ (List.mem_of_getElem? (i := 2139) (by rfl))
set_option maxRecDepth 100000 in
theorem kx_2140 : (Jvm.Cond.code ({ cls := "CoinJudgeModel", name := "valueOf", desc := "(I)J" } : Jvm.MethodName) prog_14_method_53_code (3 : Nat) (Option.some Jvm.ClassFile.FieldType.long)) ∈ lw_tbl := List.mem_append_right _ (List.mem_of_getElem? (i := 2140) (by rfl))
set_option maxRecDepth 100000 in
theorem kx_2141 : (Jvm.Cond.methodLink "CoinJudgeModel" (450 : Nat) ({ cls := "CoinJudgeModel", name := "output", desc := "(LCoinJudgeModel$Parsed;II)I" } : Jvm.MethodName)) ∈ lw_tbl := List.mem_append_right _ (List.mem_of_getElem? (i := 2141) (by rfl))
set_option maxRecDepth 100000 in
theorem kx_2143 : (Jvm.Cond.instanceMethod ({ cls := "CoinJudgeModel", name := "output", desc := "(LCoinJudgeModel$Parsed;II)I" } : Jvm.MethodName)) ∈ lw_tbl := List.mem_append_right _ (List.mem_of_getElem? (i := 2143) (by rfl))
set_option maxRecDepth 100000 in
theorem kx_2146 : (Jvm.Cond.methodLink "CoinJudgeModel" (477 : Nat) ({ cls := "CoinJudgeModel", name := "unlocks", desc := "(LCoinJudgeModel$Parsed;II)Z" } : Jvm.MethodName)) ∈ lw_tbl := List.mem_append_right _ (List.mem_of_getElem? (i := 2146) (by rfl))
set_option maxRecDepth 100000 in
theorem kx_2148 : (Jvm.Cond.instanceMethod ({ cls := "CoinJudgeModel", name := "unlocks", desc := "(LCoinJudgeModel$Parsed;II)Z" } : Jvm.MethodName)) ∈ lw_tbl := List.mem_append_right _ (List.mem_of_getElem? (i := 2148) (by rfl))
set_option maxRecDepth 100000 in
theorem kx_2149 : (Jvm.Cond.code ({ cls := "CoinJudgeModel", name := "unlocks", desc := "(LCoinJudgeModel$Parsed;II)Z" } : Jvm.MethodName) prog_14_method_88_code (13 : Nat) (Option.some Jvm.ClassFile.FieldType.boolean)) ∈ lw_tbl := List.mem_append_right _ (List.mem_of_getElem? (i := 2149) (by rfl))
set_option maxRecDepth 100000 in
theorem kx_2153 : (Jvm.Cond.code ({ cls := "CoinJudgeModel", name := "run", desc := "([BII)Z" } : Jvm.MethodName) prog_14_method_68_code (9 : Nat) (Option.some Jvm.ClassFile.FieldType.boolean)) ∈ lw_tbl := List.mem_append_right _ (List.mem_of_getElem? (i := 2153) (by rfl))
set_option maxRecDepth 100000 in
theorem kx_2154 : (Jvm.Cond.methodLink "CoinJudgeModel" (423 : Nat) ({ cls := "CoinJudgeModel", name := "behind", desc := "([BII)I" } : Jvm.MethodName)) ∈ lw_tbl := List.mem_append_right _ (List.mem_of_getElem? (i := 2154) (by rfl))
set_option maxRecDepth 100000 in
theorem kx_2156 : (Jvm.Cond.instanceMethod ({ cls := "CoinJudgeModel", name := "behind", desc := "([BII)I" } : Jvm.MethodName)) ∈ lw_tbl := List.mem_append_right _ (List.mem_of_getElem? (i := 2156) (by rfl))
set_option maxRecDepth 100000 in
theorem kx_2157 : (Jvm.Cond.code ({ cls := "CoinJudgeModel", name := "behind", desc := "([BII)I" } : Jvm.MethodName) prog_14_method_49_code (8 : Nat) (Option.some Jvm.ClassFile.FieldType.int)) ∈ lw_tbl := List.mem_append_right _ (List.mem_of_getElem? (i := 2157) (by rfl))
set_option maxRecDepth 100000 in
theorem kx_2158 : (Jvm.Cond.methodLink "CoinJudgeModel" (566 : Nat) ({ cls := "CoinJudgeModel", name := "never", desc := "(I)Z" } : Jvm.MethodName)) ∈ lw_tbl := List.mem_append_right _ (List.mem_of_getElem? (i := 2158) (by rfl))
set_option maxRecDepth 100000 in
theorem kx_2159 : (Jvm.Cond.static ({ cls := "CoinJudgeModel", name := "never", desc := "(I)Z" } : Jvm.MethodName)) ∈ lw_tbl := List.mem_append_right _ (List.mem_of_getElem? (i := 2159) (by rfl))
set_option maxRecDepth 100000 in
theorem kx_2160 : (Jvm.Cond.code ({ cls := "CoinJudgeModel", name := "never", desc := "(I)Z" } : Jvm.MethodName) prog_14_method_67_code (1 : Nat) (Option.some Jvm.ClassFile.FieldType.boolean)) ∈ lw_tbl := List.mem_append_right _ (List.mem_of_getElem? (i := 2160) (by rfl))
set_option maxRecDepth 100000 in
theorem kx_2161 : (Jvm.Cond.methodLink "CoinJudgeModel" (574 : Nat) ({ cls := "CoinJudgeModel", name := "branch", desc := "(IZ)V" } : Jvm.MethodName)) ∈ lw_tbl := List.mem_append_right _ (List.mem_of_getElem? (i := 2161) (by rfl))
set_option maxRecDepth 100000 in
theorem kx_2163 : (Jvm.Cond.instanceMethod ({ cls := "CoinJudgeModel", name := "branch", desc := "(IZ)V" } : Jvm.MethodName)) ∈ lw_tbl := List.mem_append_right _ (List.mem_of_getElem? (i := 2163) (by rfl))
set_option maxRecDepth 100000 in
theorem kx_2164 : (Jvm.Cond.code ({ cls := "CoinJudgeModel", name := "branch", desc := "(IZ)V" } : Jvm.MethodName) prog_14_method_69_code (4 : Nat) (Option.none : Option Jvm.ClassFile.FieldType)) ∈ lw_tbl := List.mem_append_right _ (List.mem_of_getElem? (i := 2164) (by rfl))
set_option maxRecDepth 100000 in
theorem kx_2165 : (Jvm.Cond.methodLink "CoinJudgeModel" (582 : Nat) ({ cls := "CoinJudgeModel", name := "need", desc := "(I)Z" } : Jvm.MethodName)) ∈ lw_tbl := List.mem_append_right _ (List.mem_of_getElem? (i := 2165) (by rfl))
set_option maxRecDepth 100000 in
theorem kx_2167 : (Jvm.Cond.instanceMethod ({ cls := "CoinJudgeModel", name := "need", desc := "(I)Z" } : Jvm.MethodName)) ∈ lw_tbl := List.mem_append_right _ (List.mem_of_getElem? (i := 2167) (by rfl))
set_option maxRecDepth 100000 in
theorem kx_2168 : (Jvm.Cond.code ({ cls := "CoinJudgeModel", name := "need", desc := "(I)Z" } : Jvm.MethodName) prog_14_method_66_code (2 : Nat) (Option.some Jvm.ClassFile.FieldType.boolean)) ∈ lw_tbl := List.mem_append_right _ (List.mem_of_getElem? (i := 2168) (by rfl))
set_option maxRecDepth 100000 in
theorem kx_2169 : (Jvm.Cond.methodLink "CoinJudgeModel" (585 : Nat) ({ cls := "CoinJudgeModel", name := "isTrue", desc := "(I)Z" } : Jvm.MethodName)) ∈ lw_tbl := List.mem_append_right _ (List.mem_of_getElem? (i := 2169) (by rfl))
set_option maxRecDepth 100000 in
theorem kx_2171 : (Jvm.Cond.instanceMethod ({ cls := "CoinJudgeModel", name := "isTrue", desc := "(I)Z" } : Jvm.MethodName)) ∈ lw_tbl := List.mem_append_right _ (List.mem_of_getElem? (i := 2171) (by rfl))
set_option maxRecDepth 100000 in
theorem kx_2172 : (Jvm.Cond.code ({ cls := "CoinJudgeModel", name := "isTrue", desc := "(I)Z" } : Jvm.MethodName) prog_14_method_62_code (4 : Nat) (Option.some Jvm.ClassFile.FieldType.boolean)) ∈ lw_tbl := List.mem_append_right _ (List.mem_of_getElem? (i := 2172) (by rfl))
set_option maxRecDepth 100000 in
theorem kx_2173 : (Jvm.Cond.methodLink "CoinJudgeModel" (578 : Nat) ({ cls := "CoinJudgeModel", name := "act", desc := "(I[BI)V" } : Jvm.MethodName)) ∈ lw_tbl := List.mem_append_right _ (List.mem_of_getElem? (i := 2173) (by rfl))
set_option maxRecDepth 100000 in
theorem kx_2175 : (Jvm.Cond.instanceMethod ({ cls := "CoinJudgeModel", name := "act", desc := "(I[BI)V" } : Jvm.MethodName)) ∈ lw_tbl := List.mem_append_right _ (List.mem_of_getElem? (i := 2175) (by rfl))
set_option maxRecDepth 100000 in
theorem kx_2176 : (Jvm.Cond.code ({ cls := "CoinJudgeModel", name := "act", desc := "(I[BI)V" } : Jvm.MethodName) prog_14_method_70_code (5 : Nat) (Option.none : Option Jvm.ClassFile.FieldType)) ∈ lw_tbl := List.mem_append_right _ (List.mem_of_getElem? (i := 2176) (by rfl))
set_option maxRecDepth 100000 in
theorem kx_2177 : (Jvm.Cond.methodLink "CoinJudgeModel" (538 : Nat) ({ cls := "CoinJudgeModel", name := "push", desc := "([BII)V" } : Jvm.MethodName)) ∈ lw_tbl := List.mem_append_right _ (List.mem_of_getElem? (i := 2177) (by rfl))
set_option maxRecDepth 100000 in
theorem kx_2179 : (Jvm.Cond.instanceMethod ({ cls := "CoinJudgeModel", name := "push", desc := "([BII)V" } : Jvm.MethodName)) ∈ lw_tbl := List.mem_append_right _ (List.mem_of_getElem? (i := 2179) (by rfl))
set_option maxRecDepth 100000 in
theorem kx_2180 : (Jvm.Cond.code ({ cls := "CoinJudgeModel", name := "push", desc := "([BII)V" } : Jvm.MethodName) prog_14_method_59_code (6 : Nat) (Option.none : Option Jvm.ClassFile.FieldType)) ∈ lw_tbl := List.mem_append_right _ (List.mem_of_getElem? (i := 2180) (by rfl))
set_option maxRecDepth 100000 in
theorem kx_2181 : (Jvm.Cond.methodLink "CoinJudgeModel" (531 : Nat) ({ cls := "CoinJudgeModel", name := "row", desc := "([[BI)[B" } : Jvm.MethodName)) ∈ lw_tbl := List.mem_append_right _ (List.mem_of_getElem? (i := 2181) (by rfl))
set_option maxRecDepth 100000 in
theorem kx_2182 : (Jvm.Cond.static ({ cls := "CoinJudgeModel", name := "row", desc := "([[BI)[B" } : Jvm.MethodName)) ∈ lw_tbl := List.mem_append_right _ (List.mem_of_getElem? (i := 2182) (by rfl))
set_option maxRecDepth 100000 in
theorem kx_2183 : (Jvm.Cond.code ({ cls := "CoinJudgeModel", name := "row", desc := "([[BI)[B" } : Jvm.MethodName) prog_14_method_58_code (2 : Nat) (Option.some (Jvm.ClassFile.FieldType.array Jvm.ClassFile.FieldType.byte))) ∈ lw_tbl := List.mem_append_right _ (List.mem_of_getElem? (i := 2183) (by rfl))
set_option maxRecDepth 100000 in
theorem kx_2184 : (Jvm.Cond.methodLink "CoinJudgeModel" (545 : Nat) ({ cls := "CoinJudgeModel", name := "pushNumber", desc := "(J)V" } : Jvm.MethodName)) ∈ lw_tbl := List.mem_append_right _ (List.mem_of_getElem? (i := 2184) (by rfl))
set_option maxRecDepth 100000 in
theorem kx_2186 : (Jvm.Cond.instanceMethod ({ cls := "CoinJudgeModel", name := "pushNumber", desc := "(J)V" } : Jvm.MethodName)) ∈ lw_tbl := List.mem_append_right _ (List.mem_of_getElem? (i := 2186) (by rfl))
set_option maxRecDepth 100000 in
theorem kx_2187 : (Jvm.Cond.code ({ cls := "CoinJudgeModel", name := "pushNumber", desc := "(J)V" } : Jvm.MethodName) prog_14_method_63_code (6 : Nat) (Option.none : Option Jvm.ClassFile.FieldType)) ∈ lw_tbl := List.mem_append_right _ (List.mem_of_getElem? (i := 2187) (by rfl))
set_option maxRecDepth 100000 in
theorem kx_2199 : (Jvm.Cond.code ({ cls := "CoinJudgeModel", name := "numberAt", desc := "(II)J" } : Jvm.MethodName) prog_14_method_65_code (8 : Nat) (Option.some Jvm.ClassFile.FieldType.long)) ∈ lw_tbl := List.mem_append_right _ (List.mem_of_getElem? (i := 2199) (by rfl))
set_option maxRecDepth 100000 in
theorem kx_2200 : (Jvm.Cond.methodLink "CoinJudgeModel" (599 : Nat) ({ cls := "CoinJudgeModel", name := "pushTruth", desc := "(Z)V" } : Jvm.MethodName)) ∈ lw_tbl := List.mem_append_right _ (List.mem_of_getElem? (i := 2200) (by rfl))
set_option maxRecDepth 100000 in
theorem kx_2202 : (Jvm.Cond.instanceMethod ({ cls := "CoinJudgeModel", name := "pushTruth", desc := "(Z)V" } : Jvm.MethodName)) ∈ lw_tbl := List.mem_append_right _ (List.mem_of_getElem? (i := 2202) (by rfl))
set_option maxRecDepth 100000 in
theorem kx_2203 : (Jvm.Cond.code ({ cls := "CoinJudgeModel", name := "pushTruth", desc := "(Z)V" } : Jvm.MethodName) prog_14_method_64_code (2 : Nat) (Option.none : Option Jvm.ClassFile.FieldType)) ∈ lw_tbl := List.mem_append_right _ (List.mem_of_getElem? (i := 2203) (by rfl))
set_option maxRecDepth 100000 in
theorem kx_2207 : (Jvm.Cond.code ({ cls := "CoinJudgeModel", name := "answer", desc := "(ZZ)V" } : Jvm.MethodName) prog_14_method_71_code (3 : Nat) (Option.none : Option Jvm.ClassFile.FieldType)) ∈ lw_tbl := List.mem_append_right _ (List.mem_of_getElem? (i := 2207) (by rfl))
set_option maxRecDepth 100000 in
theorem kx_2339 : (Jvm.Cond.constantLong "CoinJudgeModel" (430 : Nat) (500000000 : Int64)) ∈ lw_tbl := List.mem_append_right _ (List.mem_of_getElem? (i := 2339) (by rfl))
set_option maxRecDepth 100000 in
theorem kx_2347 : (Jvm.Cond.code ({ cls := "CoinJudgeModel", name := "copy", desc := "(I)V" } : Jvm.MethodName) prog_14_method_60_code (3 : Nat) (Option.none : Option Jvm.ClassFile.FieldType)) ∈ lw_tbl := List.mem_append_right _ (List.mem_of_getElem? (i := 2347) (by rfl))
set_option maxRecDepth 100000 in
theorem kx_2351 : (Jvm.Cond.code ({ cls := "CoinJudgeModel", name := "lift", desc := "(I)V" } : Jvm.MethodName) prog_14_method_61_code (5 : Nat) (Option.none : Option Jvm.ClassFile.FieldType)) ∈ lw_tbl := List.mem_append_right _ (List.mem_of_getElem? (i := 2351) (by rfl))
set_option maxRecDepth 100000 in
theorem kx_2360 : (Jvm.Cond.methodLink "CoinJudgeModel" (481 : Nat) ({ cls := "CoinJudgeModel", name := "mark", desc := "(III)I" } : Jvm.MethodName)) ∈ lw_tbl := List.mem_append_right _ (List.mem_of_getElem? (i := 2360) (by rfl))
set_option maxRecDepth 100000 in
theorem kx_2361 : (Jvm.Cond.static ({ cls := "CoinJudgeModel", name := "mark", desc := "(III)I" } : Jvm.MethodName)) ∈ lw_tbl := List.mem_append_right _ (List.mem_of_getElem? (i := 2361) (by rfl))
set_option maxRecDepth 100000 in
theorem kx_2366 : (Jvm.Cond.code ({ cls := "CoinJudgeModel", name := "take", desc := "()V" } : Jvm.MethodName) prog_14_method_56_code (2 : Nat) (Option.none : Option Jvm.ClassFile.FieldType)) ∈ lw_tbl := List.mem_append_right _ (List.mem_of_getElem? (i := 2366) (by rfl))
set_option maxRecDepth 100000 in
theorem kx_2417 : (Jvm.Cond.fieldLink "CoinJudgeModel" (500 : Nat) "CoinJudgeModel" "coins" "[I") ∈ lw_tbl := List.mem_append_right _ (List.mem_of_getElem? (i := 2417) (by rfl))
set_option maxRecDepth 100000 in
theorem kx_2418 : (Jvm.Cond.fieldLink "CoinJudgeModel" (497 : Nat) "CoinJudgeModel" "coinCount" "I") ∈ lw_tbl := List.mem_append_right _ (List.mem_of_getElem? (i := 2418) (by rfl))
set_option maxRecDepth 100000 in
theorem kx_2419 : (Jvm.Cond.fieldLink "CoinJudgeModel" (461 : Nat) "CoinJudgeModel" "trial" "[I") ∈ lw_tbl := List.mem_append_right _ (List.mem_of_getElem? (i := 2419) (by rfl))
set_option maxRecDepth 100000 in
theorem kx_2420 : (Jvm.Cond.fieldLink "CoinJudgeModel" (464 : Nat) "CoinJudgeModel" "trialCount" "I") ∈ lw_tbl := List.mem_append_right _ (List.mem_of_getElem? (i := 2420) (by rfl))
set_option maxRecDepth 100000 in
theorem kx_2429 : (Jvm.Cond.fieldLink "CoinJudgeModel" (514 : Nat) "CoinJudgeModel" "aim" "[I") ∈ lw_tbl := List.mem_append_right _ (List.mem_of_getElem? (i := 2429) (by rfl))
set_option maxRecDepth 100000 in
theorem kx_2431 : (Jvm.Cond.fieldLink "CoinJudgeModel" (427 : Nat) "CoinJudgeModel" "pushed" "I") ∈ lw_tbl := List.mem_append_right _ (List.mem_of_getElem? (i := 2431) (by rfl))
set_option maxRecDepth 100000 in
theorem kx_2432 : (Jvm.Cond.fieldLink "CoinJudgeModel" (487 : Nat) "CoinJudgeModel" "path" "[I") ∈ lw_tbl := List.mem_append_right _ (List.mem_of_getElem? (i := 2432) (by rfl))
set_option maxRecDepth 100000 in
theorem kx_2433 : (Jvm.Cond.fieldLink "CoinJudgeModel" (527 : Nat) "CoinJudgeModel" "stack" "[[B") ∈ lw_tbl := List.mem_append_right _ (List.mem_of_getElem? (i := 2433) (by rfl))
set_option maxRecDepth 100000 in
theorem kx_2434 : (Jvm.Cond.fieldLink "CoinJudgeModel" (535 : Nat) "CoinJudgeModel" "sizes" "[I") ∈ lw_tbl := List.mem_append_right _ (List.mem_of_getElem? (i := 2434) (by rfl))
set_option maxRecDepth 100000 in
theorem kx_2435 : (Jvm.Cond.fieldLink "CoinJudgeModel" (521 : Nat) "CoinJudgeModel" "top" "I") ∈ lw_tbl := List.mem_append_right _ (List.mem_of_getElem? (i := 2435) (by rfl))
set_option maxRecDepth 100000 in
theorem kx_2438 : (Jvm.Cond.fieldLink "CoinJudgeModel" (560 : Nat) "CoinJudgeModel" "otherTop" "I") ∈ lw_tbl := List.mem_append_right _ (List.mem_of_getElem? (i := 2438) (by rfl))
set_option maxRecDepth 100000 in
theorem kx_2442 : (Jvm.Cond.fieldLink "CoinJudgeModel" (524 : Nat) "CoinJudgeModel" "failed" "Z") ∈ lw_tbl := List.mem_append_right _ (List.mem_of_getElem? (i := 2442) (by rfl))
set_option maxRecDepth 100000 in
theorem kx_2443 : (Jvm.Cond.fieldLink "CoinJudgeModel" (542 : Nat) "CoinJudgeModel" "small" "[B") ∈ lw_tbl := List.mem_append_right _ (List.mem_of_getElem? (i := 2443) (by rfl))
set_option maxRecDepth 100000 in
theorem kx_2447 : (Jvm.Cond.fieldLink "CoinJudgeModel" (548 : Nat) "CoinJudgeModel" "code" "[B") ∈ lw_tbl := List.mem_append_right _ (List.mem_of_getElem? (i := 2447) (by rfl))
set_option maxRecDepth 100000 in
theorem kx_2448 : (Jvm.Cond.fieldLink "CoinJudgeModel" (551 : Nat) "CoinJudgeModel" "codeFrom" "I") ∈ lw_tbl := List.mem_append_right _ (List.mem_of_getElem? (i := 2448) (by rfl))
set_option maxRecDepth 100000 in
theorem kx_2449 : (Jvm.Cond.fieldLink "CoinJudgeModel" (554 : Nat) "CoinJudgeModel" "codeEnd" "I") ∈ lw_tbl := List.mem_append_right _ (List.mem_of_getElem? (i := 2449) (by rfl))
set_option maxRecDepth 100000 in
theorem kx_2450 : (Jvm.Cond.fieldLink "CoinJudgeModel" (557 : Nat) "CoinJudgeModel" "operations" "I") ∈ lw_tbl := List.mem_append_right _ (List.mem_of_getElem? (i := 2450) (by rfl))
set_option maxRecDepth 100000 in
theorem kx_2451 : (Jvm.Cond.fieldLink "CoinJudgeModel" (570 : Nat) "CoinJudgeModel" "conditions" "[Z") ∈ lw_tbl := List.mem_append_right _ (List.mem_of_getElem? (i := 2451) (by rfl))
set_option maxRecDepth 100000 in
theorem kx_2452 : (Jvm.Cond.fieldLink "CoinJudgeModel" (563 : Nat) "CoinJudgeModel" "open" "I") ∈ lw_tbl := List.mem_append_right _ (List.mem_of_getElem? (i := 2452) (by rfl))
set_option maxRecDepth 100000 in
theorem kx_2823 : (Jvm.Cond.code ({ cls := "CoinJudgeModel", name := "fault", desc := "(LCoinJudgeModel$Parsed;I)I" } : Jvm.MethodName) prog_14_method_51_code (8 : Nat) (Option.some Jvm.ClassFile.FieldType.int)) ∈ lw_tbl := List.mem_append_right _ (List.mem_of_getElem? (i := 2823) (by rfl))
set_option maxRecDepth 100000 in
theorem kx_2824 : (Jvm.Cond.methodLink "CoinJudgeModel" (438 : Nat) ({ cls := "CoinJudgeModel", name := "middle", desc := "(I)J" } : Jvm.MethodName)) ∈ lw_tbl := List.mem_append_right _ (List.mem_of_getElem? (i := 2824) (by rfl))
set_option maxRecDepth 100000 in
theorem kx_2826 : (Jvm.Cond.instanceMethod ({ cls := "CoinJudgeModel", name := "middle", desc := "(I)J" } : Jvm.MethodName)) ∈ lw_tbl := List.mem_append_right _ (List.mem_of_getElem? (i := 2826) (by rfl))
set_option maxRecDepth 100000 in
theorem kx_2828 : (Jvm.Cond.methodLink "CoinJudgeModel" (443 : Nat) ({ cls := "CoinJudgeModel", name := "alone", desc := "(LCoinJudgeModel$Parsed;I)I" } : Jvm.MethodName)) ∈ lw_tbl := List.mem_append_right _ (List.mem_of_getElem? (i := 2828) (by rfl))
set_option maxRecDepth 100000 in
theorem kx_2830 : (Jvm.Cond.instanceMethod ({ cls := "CoinJudgeModel", name := "alone", desc := "(LCoinJudgeModel$Parsed;I)I" } : Jvm.MethodName)) ∈ lw_tbl := List.mem_append_right _ (List.mem_of_getElem? (i := 2830) (by rfl))
set_option maxRecDepth 100000 in
theorem kx_2836 : (Jvm.Cond.methodLink "CoinJudgeModel" (447 : Nat) ({ cls := "CoinJudgeModel", name := "asks", desc := "([BII)I" } : Jvm.MethodName)) ∈ lw_tbl := List.mem_append_right _ (List.mem_of_getElem? (i := 2836) (by rfl))
set_option maxRecDepth 100000 in
theorem kx_2838 : (Jvm.Cond.instanceMethod ({ cls := "CoinJudgeModel", name := "asks", desc := "([BII)I" } : Jvm.MethodName)) ∈ lw_tbl := List.mem_append_right _ (List.mem_of_getElem? (i := 2838) (by rfl))
set_option maxRecDepth 100000 in
theorem kx_2839 : (Jvm.Cond.code ({ cls := "CoinJudgeModel", name := "asks", desc := "([BII)I" } : Jvm.MethodName) prog_14_method_48_code (9 : Nat) (Option.some Jvm.ClassFile.FieldType.int)) ∈ lw_tbl := List.mem_append_right _ (List.mem_of_getElem? (i := 2839) (by rfl))
set_option maxRecDepth 100000 in
theorem kx_2840 : (Jvm.Cond.methodLink "CoinJudgeModel" (453 : Nat) ({ cls := "CoinJudgeModel", name := "isLast", desc := "(LCoinJudgeModel$Parsed;IIJ)Z" } : Jvm.MethodName)) ∈ lw_tbl := List.mem_append_right _ (List.mem_of_getElem? (i := 2840) (by rfl))
set_option maxRecDepth 100000 in
theorem kx_2842 : (Jvm.Cond.instanceMethod ({ cls := "CoinJudgeModel", name := "isLast", desc := "(LCoinJudgeModel$Parsed;IIJ)Z" } : Jvm.MethodName)) ∈ lw_tbl := List.mem_append_right _ (List.mem_of_getElem? (i := 2842) (by rfl))
set_option maxRecDepth 100000 in
theorem kx_2843 : (Jvm.Cond.code ({ cls := "CoinJudgeModel", name := "isLast", desc := "(LCoinJudgeModel$Parsed;IIJ)Z" } : Jvm.MethodName) prog_14_method_50_code (10 : Nat) (Option.some Jvm.ClassFile.FieldType.boolean)) ∈ lw_tbl := List.mem_append_right _ (List.mem_of_getElem? (i := 2843) (by rfl))
set_option maxRecDepth 100000 in
theorem kx_2847 : (Jvm.Cond.code ({ cls := "CoinJudgeModel", name := "chain", desc := "(I)I" } : Jvm.MethodName) prog_14_method_55_code (6 : Nat) (Option.some Jvm.ClassFile.FieldType.int)) ∈ lw_tbl := List.mem_append_right _ (List.mem_of_getElem? (i := 2847) (by rfl))
set_option maxRecDepth 100000 in
theorem kx_2848 : (Jvm.Cond.methodLink "CoinJudgeModel" (493 : Nat) ({ cls := "CoinJudgeModel", name := "isIn", desc := "(II)Z" } : Jvm.MethodName)) ∈ lw_tbl := List.mem_append_right _ (List.mem_of_getElem? (i := 2848) (by rfl))
set_option maxRecDepth 100000 in
theorem kx_2850 : (Jvm.Cond.instanceMethod ({ cls := "CoinJudgeModel", name := "isIn", desc := "(II)Z" } : Jvm.MethodName)) ∈ lw_tbl := List.mem_append_right _ (List.mem_of_getElem? (i := 2850) (by rfl))
theorem kxp_71 : Cond.selects "CoinJudgeModel" ({ cls := "CoinJudgeModel", name := "keep", desc := "([BII)V" } : MethodName) ({ cls := "CoinJudgeModel", name := "keep", desc := "([BII)V" } : MethodName) ∈ lw_tbl := List.mem_append_left _ (List.mem_of_getElem? (i := 71) (by decide +kernel))
theorem kxp_77 : Cond.selects "CoinJudgeModel" ({ cls := "CoinJudgeModel", name := "connect", desc := "(I)I" } : MethodName) ({ cls := "CoinJudgeModel", name := "connect", desc := "(I)I" } : MethodName) ∈ lw_tbl := List.mem_append_left _ (List.mem_of_getElem? (i := 77) (by decide +kernel))
theorem kxp_80 : Cond.selects "CoinJudgeModel" ({ cls := "CoinJudgeModel", name := "findCoin", desc := "([BIJ[II)I" } : MethodName) ({ cls := "CoinJudgeModel", name := "findCoin", desc := "([BIJ[II)I" } : MethodName) ∈ lw_tbl := List.mem_append_left _ (List.mem_of_getElem? (i := 80) (by decide +kernel))
theorem kxp_81 : Cond.selects "CoinJudgeModel" ({ cls := "CoinJudgeModel", name := "valueOf", desc := "(I)J" } : MethodName) ({ cls := "CoinJudgeModel", name := "valueOf", desc := "(I)J" } : MethodName) ∈ lw_tbl := List.mem_append_left _ (List.mem_of_getElem? (i := 81) (by decide +kernel))
theorem kxp_84 : Cond.selects "CoinJudgeModel" ({ cls := "CoinJudgeModel", name := "run", desc := "([BII)Z" } : MethodName) ({ cls := "CoinJudgeModel", name := "run", desc := "([BII)Z" } : MethodName) ∈ lw_tbl := List.mem_append_left _ (List.mem_of_getElem? (i := 84) (by decide +kernel))
theorem kxp_85 : Cond.selects "CoinJudgeModel" ({ cls := "CoinJudgeModel", name := "behind", desc := "([BII)I" } : MethodName) ({ cls := "CoinJudgeModel", name := "behind", desc := "([BII)I" } : MethodName) ∈ lw_tbl := List.mem_append_left _ (List.mem_of_getElem? (i := 85) (by decide +kernel))
theorem kxp_86 : Cond.selects "CoinJudgeModel" ({ cls := "CoinJudgeModel", name := "branch", desc := "(IZ)V" } : MethodName) ({ cls := "CoinJudgeModel", name := "branch", desc := "(IZ)V" } : MethodName) ∈ lw_tbl := List.mem_append_left _ (List.mem_of_getElem? (i := 86) (by decide +kernel))
theorem kxp_87 : Cond.selects "CoinJudgeModel" ({ cls := "CoinJudgeModel", name := "need", desc := "(I)Z" } : MethodName) ({ cls := "CoinJudgeModel", name := "need", desc := "(I)Z" } : MethodName) ∈ lw_tbl := List.mem_append_left _ (List.mem_of_getElem? (i := 87) (by decide +kernel))
theorem kxp_88 : Cond.selects "CoinJudgeModel" ({ cls := "CoinJudgeModel", name := "isTrue", desc := "(I)Z" } : MethodName) ({ cls := "CoinJudgeModel", name := "isTrue", desc := "(I)Z" } : MethodName) ∈ lw_tbl := List.mem_append_left _ (List.mem_of_getElem? (i := 88) (by decide +kernel))
theorem kxp_90 : Cond.selects "CoinJudgeModel" ({ cls := "CoinJudgeModel", name := "push", desc := "([BII)V" } : MethodName) ({ cls := "CoinJudgeModel", name := "push", desc := "([BII)V" } : MethodName) ∈ lw_tbl := List.mem_append_left _ (List.mem_of_getElem? (i := 90) (by decide +kernel))
theorem kxp_91 : Cond.selects "CoinJudgeModel" ({ cls := "CoinJudgeModel", name := "pushNumber", desc := "(J)V" } : MethodName) ({ cls := "CoinJudgeModel", name := "pushNumber", desc := "(J)V" } : MethodName) ∈ lw_tbl := List.mem_append_left _ (List.mem_of_getElem? (i := 91) (by decide +kernel))
theorem kxp_94 : Cond.selects "CoinJudgeModel" ({ cls := "CoinJudgeModel", name := "numberAt", desc := "(II)J" } : MethodName) ({ cls := "CoinJudgeModel", name := "numberAt", desc := "(II)J" } : MethodName) ∈ lw_tbl := List.mem_append_left _ (List.mem_of_getElem? (i := 94) (by decide +kernel))
theorem kxp_95 : Cond.selects "CoinJudgeModel" ({ cls := "CoinJudgeModel", name := "pushTruth", desc := "(Z)V" } : MethodName) ({ cls := "CoinJudgeModel", name := "pushTruth", desc := "(Z)V" } : MethodName) ∈ lw_tbl := List.mem_append_left _ (List.mem_of_getElem? (i := 95) (by decide +kernel))
theorem kxp_96 : Cond.selects "CoinJudgeModel" ({ cls := "CoinJudgeModel", name := "answer", desc := "(ZZ)V" } : MethodName) ({ cls := "CoinJudgeModel", name := "answer", desc := "(ZZ)V" } : MethodName) ∈ lw_tbl := List.mem_append_left _ (List.mem_of_getElem? (i := 96) (by decide +kernel))
theorem kxp_122 : Cond.selects "CoinJudgeModel" ({ cls := "CoinJudgeModel", name := "copy", desc := "(I)V" } : MethodName) ({ cls := "CoinJudgeModel", name := "copy", desc := "(I)V" } : MethodName) ∈ lw_tbl := List.mem_append_left _ (List.mem_of_getElem? (i := 122) (by decide +kernel))
theorem kxp_123 : Cond.selects "CoinJudgeModel" ({ cls := "CoinJudgeModel", name := "lift", desc := "(I)V" } : MethodName) ({ cls := "CoinJudgeModel", name := "lift", desc := "(I)V" } : MethodName) ∈ lw_tbl := List.mem_append_left _ (List.mem_of_getElem? (i := 123) (by decide +kernel))
theorem kxp_126 : Cond.selects "CoinJudgeModel" ({ cls := "CoinJudgeModel", name := "take", desc := "()V" } : MethodName) ({ cls := "CoinJudgeModel", name := "take", desc := "()V" } : MethodName) ∈ lw_tbl := List.mem_append_left _ (List.mem_of_getElem? (i := 126) (by decide +kernel))
theorem kxp_135 : Cond.selects "CoinJudgeModel" ({ cls := "CoinJudgeModel", name := "fault", desc := "(LCoinJudgeModel$Parsed;I)I" } : MethodName) ({ cls := "CoinJudgeModel", name := "fault", desc := "(LCoinJudgeModel$Parsed;I)I" } : MethodName) ∈ lw_tbl := List.mem_append_left _ (List.mem_of_getElem? (i := 135) (by decide +kernel))
theorem kxp_139 : Cond.selects "CoinJudgeModel" ({ cls := "CoinJudgeModel", name := "asks", desc := "([BII)I" } : MethodName) ({ cls := "CoinJudgeModel", name := "asks", desc := "([BII)I" } : MethodName) ∈ lw_tbl := List.mem_append_left _ (List.mem_of_getElem? (i := 139) (by decide +kernel))
theorem kxp_140 : Cond.selects "CoinJudgeModel" ({ cls := "CoinJudgeModel", name := "isLast", desc := "(LCoinJudgeModel$Parsed;IIJ)Z" } : MethodName) ({ cls := "CoinJudgeModel", name := "isLast", desc := "(LCoinJudgeModel$Parsed;IIJ)Z" } : MethodName) ∈ lw_tbl := List.mem_append_left _ (List.mem_of_getElem? (i := 140) (by decide +kernel))
theorem kxp_141 : Cond.selects "CoinJudgeModel" ({ cls := "CoinJudgeModel", name := "chain", desc := "(I)I" } : MethodName) ({ cls := "CoinJudgeModel", name := "chain", desc := "(I)I" } : MethodName) ∈ lw_tbl := List.mem_append_left _ (List.mem_of_getElem? (i := 141) (by decide +kernel))

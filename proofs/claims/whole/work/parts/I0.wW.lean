abbrev mX16_act : ks_M := (RX16, cX16_act, 5, none, "act")
def drX16_act : List (Nat × Instr × Nat) := [(0, .iload_n 1, 1), (1, .bipush 78, 2), (3, .if_icmp .gt 21, 3), (6, .aload_n 0, 1), (7, .aload_n 2, 1), (8, .iload_n 3, 1), (9, .aload_n 0, 1), (10, .getfield 427, 3), (13, .isub, 1), (14, .aload_n 0, 1), (15, .getfield 427, 3), (18, .invokevirtual 538, 3), (21, .goto 247, 3), (24, .iload_n 1, 1), (25, .bipush 79, 2), (27, .if_icmp .eq 15, 3), (30, .iload_n 1, 1), (31, .bipush 81, 2), (33, .if_icmp .lt 21, 3), (36, .iload_n 1, 1), (37, .bipush 96, 2), (39, .if_icmp .gt 15, 3), (42, .aload_n 0, 1), (43, .iload_n 1, 1), (44, .bipush 80, 2), (46, .isub, 1), (47, .i2l, 1), (48, .invokevirtual 545, 3), (51, .goto 217, 3), (54, .iload_n 1, 1), (55, .sipush 139, 3), (58, .if_icmp .lt 12, 3), (61, .aload_n 0, 1), (62, .iload_n 1, 1), (63, .iload_n 3, 1), (64, .invokevirtual 588, 3), (67, .goto 201, 3), (70, .iload_n 1, 1), (71, .bipush 105, 2), (73, .if_icmp .lt 23, 3), (76, .iload_n 1, 1), (77, .bipush 125, 2), (79, .if_icmp .gt 17, 3), (82, .iload_n 1, 1), (83, .bipush 106, 2), (85, .if_icmp .eq 11, 3), (88, .aload_n 0, 1), (89, .iload_n 1, 1), (90, .invokevirtual 591, 3), (93, .goto 175, 3), (96, .iload_n 1, 1), (97, .sipush 130, 3), (100, .if_icmp .ne 30, 3), (103, .aload_n 0, 1), (104, .iconst 1, 1), (105, .invokevirtual 582, 3), (108, .ifCond .eq 160, 3), (111, .aload_n 0, 1), (112, .aload_n 0, 1), (113, .getfield 535, 3), (116, .aload_n 0, 1), (117, .getfield 521, 3), (120, .iconst 1, 1), (121, .isub, 1), (122, .iaload, 1), (123, .i2l, 1), (124, .invokevirtual 545, 3), (127, .goto 141, 3), (130, .iload_n 1, 1), (131, .sipush 135, 3), (134, .if_icmp .eq 10, 3), (137, .iload_n 1, 1), (138, .sipush 136, 3), (141, .if_icmp .ne 116, 3), (144, .aload_n 0, 1), (145, .iconst 2, 1), (146, .invokevirtual 582, 3), (149, .ifCond .ne 4, 3), (152, .return_, 1), (153, .aload_n 0, 1), (154, .getfield 535, 3), (157, .aload_n 0, 1), (158, .getfield 521, 3), (161, .iconst 1, 1), (162, .isub, 1), (163, .iaload, 1), (164, .aload_n 0, 1), (165, .getfield 535, 3), (168, .aload_n 0, 1), (169, .getfield 521, 3), (172, .iconst 2, 1), (173, .isub, 1), (174, .iaload, 1), (175, .if_icmp .ne 48, 3), (178, .aload_n 0, 1), (179, .getfield 527, 3), (182, .aload_n 0, 1), (183, .getfield 521, 3), (186, .iconst 1, 1), (187, .isub, 1), (188, .aaload, 1), (189, .iconst 0, 1), (190, .aload_n 0, 1), (191, .getfield 527, 3), (194, .aload_n 0, 1), (195, .getfield 521, 3), (198, .iconst 2, 1), (199, .isub, 1), (200, .aaload, 1), (201, .iconst 0, 1), (202, .aload_n 0, 1), (203, .getfield 535, 3), (206, .aload_n 0, 1), (207, .getfield 521, 3), (210, .iconst 1, 1), (211, .isub, 1), (212, .iaload, 1), (213, .invokestatic 409, 3), (216, .ifCond .eq 7, 3), (219, .iconst 1, 1), (220, .goto 4, 3), (223, .iconst 0, 1), (224, .istore 4, 2), (226, .aload_n 0, 1), (227, .dup, 1), (228, .getfield 521, 3), (231, .iconst 2, 1), (232, .isub, 1), (233, .putfield 521, 3), (236, .aload_n 0, 1), (237, .iload 4, 2), (239, .iload_n 1, 1), (240, .sipush 136, 3), (243, .if_icmp .ne 7, 3), (246, .iconst 1, 1), (247, .goto 4, 3), (250, .iconst 0, 1), (251, .invokevirtual 595, 3), (254, .goto 14, 3), (257, .iload_n 1, 1), (258, .bipush 97, 2), (260, .if_icmp .eq 8, 3), (263, .aload_n 0, 1), (264, .iconst 1, 1), (265, .putfield 524, 3), (268, .return_, 1)]
set_option maxRecDepth 100000 in
theorem daX16_act : dk_all cX16_act drX16_act = true := by decide +kernel
theorem dX16_act_0 : decode cX16_act 0 = .ok (.iload_n 1, 1) := dk_get daX16_act 0 (r := (0, .iload_n 1, 1)) rfl
theorem dX16_act_1 : decode cX16_act 1 = .ok (.bipush 78, 2) := dk_get daX16_act 1 (r := (1, .bipush 78, 2)) rfl
theorem dX16_act_3 : decode cX16_act 3 = .ok (.if_icmp .gt 21, 3) := dk_get daX16_act 2 (r := (3, .if_icmp .gt 21, 3)) rfl
theorem dX16_act_6 : decode cX16_act 6 = .ok (.aload_n 0, 1) := dk_get daX16_act 3 (r := (6, .aload_n 0, 1)) rfl
theorem dX16_act_7 : decode cX16_act 7 = .ok (.aload_n 2, 1) := dk_get daX16_act 4 (r := (7, .aload_n 2, 1)) rfl
theorem dX16_act_8 : decode cX16_act 8 = .ok (.iload_n 3, 1) := dk_get daX16_act 5 (r := (8, .iload_n 3, 1)) rfl
theorem dX16_act_9 : decode cX16_act 9 = .ok (.aload_n 0, 1) := dk_get daX16_act 6 (r := (9, .aload_n 0, 1)) rfl
theorem dX16_act_10 : decode cX16_act 10 = .ok (.getfield 427, 3) := dk_get daX16_act 7 (r := (10, .getfield 427, 3)) rfl
theorem dX16_act_13 : decode cX16_act 13 = .ok (.isub, 1) := dk_get daX16_act 8 (r := (13, .isub, 1)) rfl
theorem dX16_act_14 : decode cX16_act 14 = .ok (.aload_n 0, 1) := dk_get daX16_act 9 (r := (14, .aload_n 0, 1)) rfl
theorem dX16_act_15 : decode cX16_act 15 = .ok (.getfield 427, 3) := dk_get daX16_act 10 (r := (15, .getfield 427, 3)) rfl
theorem dX16_act_18 : decode cX16_act 18 = .ok (.invokevirtual 538, 3) := dk_get daX16_act 11 (r := (18, .invokevirtual 538, 3)) rfl
theorem dX16_act_21 : decode cX16_act 21 = .ok (.goto 247, 3) := dk_get daX16_act 12 (r := (21, .goto 247, 3)) rfl
theorem dX16_act_24 : decode cX16_act 24 = .ok (.iload_n 1, 1) := dk_get daX16_act 13 (r := (24, .iload_n 1, 1)) rfl
theorem dX16_act_25 : decode cX16_act 25 = .ok (.bipush 79, 2) := dk_get daX16_act 14 (r := (25, .bipush 79, 2)) rfl
theorem dX16_act_27 : decode cX16_act 27 = .ok (.if_icmp .eq 15, 3) := dk_get daX16_act 15 (r := (27, .if_icmp .eq 15, 3)) rfl
theorem dX16_act_30 : decode cX16_act 30 = .ok (.iload_n 1, 1) := dk_get daX16_act 16 (r := (30, .iload_n 1, 1)) rfl
theorem dX16_act_31 : decode cX16_act 31 = .ok (.bipush 81, 2) := dk_get daX16_act 17 (r := (31, .bipush 81, 2)) rfl
theorem dX16_act_33 : decode cX16_act 33 = .ok (.if_icmp .lt 21, 3) := dk_get daX16_act 18 (r := (33, .if_icmp .lt 21, 3)) rfl
theorem dX16_act_36 : decode cX16_act 36 = .ok (.iload_n 1, 1) := dk_get daX16_act 19 (r := (36, .iload_n 1, 1)) rfl
theorem dX16_act_37 : decode cX16_act 37 = .ok (.bipush 96, 2) := dk_get daX16_act 20 (r := (37, .bipush 96, 2)) rfl
theorem dX16_act_39 : decode cX16_act 39 = .ok (.if_icmp .gt 15, 3) := dk_get daX16_act 21 (r := (39, .if_icmp .gt 15, 3)) rfl
theorem dX16_act_42 : decode cX16_act 42 = .ok (.aload_n 0, 1) := dk_get daX16_act 22 (r := (42, .aload_n 0, 1)) rfl
theorem dX16_act_43 : decode cX16_act 43 = .ok (.iload_n 1, 1) := dk_get daX16_act 23 (r := (43, .iload_n 1, 1)) rfl
theorem dX16_act_44 : decode cX16_act 44 = .ok (.bipush 80, 2) := dk_get daX16_act 24 (r := (44, .bipush 80, 2)) rfl
theorem dX16_act_46 : decode cX16_act 46 = .ok (.isub, 1) := dk_get daX16_act 25 (r := (46, .isub, 1)) rfl
theorem dX16_act_47 : decode cX16_act 47 = .ok (.i2l, 1) := dk_get daX16_act 26 (r := (47, .i2l, 1)) rfl
theorem dX16_act_48 : decode cX16_act 48 = .ok (.invokevirtual 545, 3) := dk_get daX16_act 27 (r := (48, .invokevirtual 545, 3)) rfl
theorem dX16_act_51 : decode cX16_act 51 = .ok (.goto 217, 3) := dk_get daX16_act 28 (r := (51, .goto 217, 3)) rfl
theorem dX16_act_54 : decode cX16_act 54 = .ok (.iload_n 1, 1) := dk_get daX16_act 29 (r := (54, .iload_n 1, 1)) rfl
theorem dX16_act_55 : decode cX16_act 55 = .ok (.sipush 139, 3) := dk_get daX16_act 30 (r := (55, .sipush 139, 3)) rfl
theorem dX16_act_58 : decode cX16_act 58 = .ok (.if_icmp .lt 12, 3) := dk_get daX16_act 31 (r := (58, .if_icmp .lt 12, 3)) rfl
theorem dX16_act_61 : decode cX16_act 61 = .ok (.aload_n 0, 1) := dk_get daX16_act 32 (r := (61, .aload_n 0, 1)) rfl
theorem dX16_act_62 : decode cX16_act 62 = .ok (.iload_n 1, 1) := dk_get daX16_act 33 (r := (62, .iload_n 1, 1)) rfl
theorem dX16_act_63 : decode cX16_act 63 = .ok (.iload_n 3, 1) := dk_get daX16_act 34 (r := (63, .iload_n 3, 1)) rfl
theorem dX16_act_64 : decode cX16_act 64 = .ok (.invokevirtual 588, 3) := dk_get daX16_act 35 (r := (64, .invokevirtual 588, 3)) rfl
theorem dX16_act_67 : decode cX16_act 67 = .ok (.goto 201, 3) := dk_get daX16_act 36 (r := (67, .goto 201, 3)) rfl
theorem dX16_act_70 : decode cX16_act 70 = .ok (.iload_n 1, 1) := dk_get daX16_act 37 (r := (70, .iload_n 1, 1)) rfl
theorem dX16_act_71 : decode cX16_act 71 = .ok (.bipush 105, 2) := dk_get daX16_act 38 (r := (71, .bipush 105, 2)) rfl
theorem dX16_act_73 : decode cX16_act 73 = .ok (.if_icmp .lt 23, 3) := dk_get daX16_act 39 (r := (73, .if_icmp .lt 23, 3)) rfl
theorem dX16_act_76 : decode cX16_act 76 = .ok (.iload_n 1, 1) := dk_get daX16_act 40 (r := (76, .iload_n 1, 1)) rfl
theorem dX16_act_77 : decode cX16_act 77 = .ok (.bipush 125, 2) := dk_get daX16_act 41 (r := (77, .bipush 125, 2)) rfl
theorem dX16_act_79 : decode cX16_act 79 = .ok (.if_icmp .gt 17, 3) := dk_get daX16_act 42 (r := (79, .if_icmp .gt 17, 3)) rfl
theorem dX16_act_82 : decode cX16_act 82 = .ok (.iload_n 1, 1) := dk_get daX16_act 43 (r := (82, .iload_n 1, 1)) rfl
theorem dX16_act_83 : decode cX16_act 83 = .ok (.bipush 106, 2) := dk_get daX16_act 44 (r := (83, .bipush 106, 2)) rfl
theorem dX16_act_85 : decode cX16_act 85 = .ok (.if_icmp .eq 11, 3) := dk_get daX16_act 45 (r := (85, .if_icmp .eq 11, 3)) rfl
theorem dX16_act_88 : decode cX16_act 88 = .ok (.aload_n 0, 1) := dk_get daX16_act 46 (r := (88, .aload_n 0, 1)) rfl
theorem dX16_act_89 : decode cX16_act 89 = .ok (.iload_n 1, 1) := dk_get daX16_act 47 (r := (89, .iload_n 1, 1)) rfl
theorem dX16_act_90 : decode cX16_act 90 = .ok (.invokevirtual 591, 3) := dk_get daX16_act 48 (r := (90, .invokevirtual 591, 3)) rfl
theorem dX16_act_93 : decode cX16_act 93 = .ok (.goto 175, 3) := dk_get daX16_act 49 (r := (93, .goto 175, 3)) rfl
theorem dX16_act_96 : decode cX16_act 96 = .ok (.iload_n 1, 1) := dk_get daX16_act 50 (r := (96, .iload_n 1, 1)) rfl
theorem dX16_act_97 : decode cX16_act 97 = .ok (.sipush 130, 3) := dk_get daX16_act 51 (r := (97, .sipush 130, 3)) rfl
theorem dX16_act_100 : decode cX16_act 100 = .ok (.if_icmp .ne 30, 3) := dk_get daX16_act 52 (r := (100, .if_icmp .ne 30, 3)) rfl
theorem dX16_act_103 : decode cX16_act 103 = .ok (.aload_n 0, 1) := dk_get daX16_act 53 (r := (103, .aload_n 0, 1)) rfl
theorem dX16_act_104 : decode cX16_act 104 = .ok (.iconst 1, 1) := dk_get daX16_act 54 (r := (104, .iconst 1, 1)) rfl
theorem dX16_act_105 : decode cX16_act 105 = .ok (.invokevirtual 582, 3) := dk_get daX16_act 55 (r := (105, .invokevirtual 582, 3)) rfl
theorem dX16_act_108 : decode cX16_act 108 = .ok (.ifCond .eq 160, 3) := dk_get daX16_act 56 (r := (108, .ifCond .eq 160, 3)) rfl
theorem dX16_act_111 : decode cX16_act 111 = .ok (.aload_n 0, 1) := dk_get daX16_act 57 (r := (111, .aload_n 0, 1)) rfl
theorem dX16_act_112 : decode cX16_act 112 = .ok (.aload_n 0, 1) := dk_get daX16_act 58 (r := (112, .aload_n 0, 1)) rfl
theorem dX16_act_113 : decode cX16_act 113 = .ok (.getfield 535, 3) := dk_get daX16_act 59 (r := (113, .getfield 535, 3)) rfl
theorem dX16_act_116 : decode cX16_act 116 = .ok (.aload_n 0, 1) := dk_get daX16_act 60 (r := (116, .aload_n 0, 1)) rfl
theorem dX16_act_117 : decode cX16_act 117 = .ok (.getfield 521, 3) := dk_get daX16_act 61 (r := (117, .getfield 521, 3)) rfl
theorem dX16_act_120 : decode cX16_act 120 = .ok (.iconst 1, 1) := dk_get daX16_act 62 (r := (120, .iconst 1, 1)) rfl
theorem dX16_act_121 : decode cX16_act 121 = .ok (.isub, 1) := dk_get daX16_act 63 (r := (121, .isub, 1)) rfl
theorem dX16_act_122 : decode cX16_act 122 = .ok (.iaload, 1) := dk_get daX16_act 64 (r := (122, .iaload, 1)) rfl
theorem dX16_act_123 : decode cX16_act 123 = .ok (.i2l, 1) := dk_get daX16_act 65 (r := (123, .i2l, 1)) rfl
theorem dX16_act_124 : decode cX16_act 124 = .ok (.invokevirtual 545, 3) := dk_get daX16_act 66 (r := (124, .invokevirtual 545, 3)) rfl
theorem dX16_act_127 : decode cX16_act 127 = .ok (.goto 141, 3) := dk_get daX16_act 67 (r := (127, .goto 141, 3)) rfl
theorem dX16_act_130 : decode cX16_act 130 = .ok (.iload_n 1, 1) := dk_get daX16_act 68 (r := (130, .iload_n 1, 1)) rfl
theorem dX16_act_131 : decode cX16_act 131 = .ok (.sipush 135, 3) := dk_get daX16_act 69 (r := (131, .sipush 135, 3)) rfl
theorem dX16_act_134 : decode cX16_act 134 = .ok (.if_icmp .eq 10, 3) := dk_get daX16_act 70 (r := (134, .if_icmp .eq 10, 3)) rfl
theorem dX16_act_137 : decode cX16_act 137 = .ok (.iload_n 1, 1) := dk_get daX16_act 71 (r := (137, .iload_n 1, 1)) rfl
theorem dX16_act_138 : decode cX16_act 138 = .ok (.sipush 136, 3) := dk_get daX16_act 72 (r := (138, .sipush 136, 3)) rfl
theorem dX16_act_141 : decode cX16_act 141 = .ok (.if_icmp .ne 116, 3) := dk_get daX16_act 73 (r := (141, .if_icmp .ne 116, 3)) rfl
theorem dX16_act_144 : decode cX16_act 144 = .ok (.aload_n 0, 1) := dk_get daX16_act 74 (r := (144, .aload_n 0, 1)) rfl
theorem dX16_act_145 : decode cX16_act 145 = .ok (.iconst 2, 1) := dk_get daX16_act 75 (r := (145, .iconst 2, 1)) rfl
theorem dX16_act_146 : decode cX16_act 146 = .ok (.invokevirtual 582, 3) := dk_get daX16_act 76 (r := (146, .invokevirtual 582, 3)) rfl
theorem dX16_act_149 : decode cX16_act 149 = .ok (.ifCond .ne 4, 3) := dk_get daX16_act 77 (r := (149, .ifCond .ne 4, 3)) rfl
theorem dX16_act_152 : decode cX16_act 152 = .ok (.return_, 1) := dk_get daX16_act 78 (r := (152, .return_, 1)) rfl
theorem dX16_act_153 : decode cX16_act 153 = .ok (.aload_n 0, 1) := dk_get daX16_act 79 (r := (153, .aload_n 0, 1)) rfl
theorem dX16_act_154 : decode cX16_act 154 = .ok (.getfield 535, 3) := dk_get daX16_act 80 (r := (154, .getfield 535, 3)) rfl
theorem dX16_act_157 : decode cX16_act 157 = .ok (.aload_n 0, 1) := dk_get daX16_act 81 (r := (157, .aload_n 0, 1)) rfl
theorem dX16_act_158 : decode cX16_act 158 = .ok (.getfield 521, 3) := dk_get daX16_act 82 (r := (158, .getfield 521, 3)) rfl
theorem dX16_act_161 : decode cX16_act 161 = .ok (.iconst 1, 1) := dk_get daX16_act 83 (r := (161, .iconst 1, 1)) rfl
theorem dX16_act_162 : decode cX16_act 162 = .ok (.isub, 1) := dk_get daX16_act 84 (r := (162, .isub, 1)) rfl
theorem dX16_act_163 : decode cX16_act 163 = .ok (.iaload, 1) := dk_get daX16_act 85 (r := (163, .iaload, 1)) rfl
theorem dX16_act_164 : decode cX16_act 164 = .ok (.aload_n 0, 1) := dk_get daX16_act 86 (r := (164, .aload_n 0, 1)) rfl
theorem dX16_act_165 : decode cX16_act 165 = .ok (.getfield 535, 3) := dk_get daX16_act 87 (r := (165, .getfield 535, 3)) rfl
theorem dX16_act_168 : decode cX16_act 168 = .ok (.aload_n 0, 1) := dk_get daX16_act 88 (r := (168, .aload_n 0, 1)) rfl
theorem dX16_act_169 : decode cX16_act 169 = .ok (.getfield 521, 3) := dk_get daX16_act 89 (r := (169, .getfield 521, 3)) rfl
theorem dX16_act_172 : decode cX16_act 172 = .ok (.iconst 2, 1) := dk_get daX16_act 90 (r := (172, .iconst 2, 1)) rfl
theorem dX16_act_173 : decode cX16_act 173 = .ok (.isub, 1) := dk_get daX16_act 91 (r := (173, .isub, 1)) rfl
theorem dX16_act_174 : decode cX16_act 174 = .ok (.iaload, 1) := dk_get daX16_act 92 (r := (174, .iaload, 1)) rfl
theorem dX16_act_175 : decode cX16_act 175 = .ok (.if_icmp .ne 48, 3) := dk_get daX16_act 93 (r := (175, .if_icmp .ne 48, 3)) rfl
theorem dX16_act_178 : decode cX16_act 178 = .ok (.aload_n 0, 1) := dk_get daX16_act 94 (r := (178, .aload_n 0, 1)) rfl
theorem dX16_act_179 : decode cX16_act 179 = .ok (.getfield 527, 3) := dk_get daX16_act 95 (r := (179, .getfield 527, 3)) rfl
theorem dX16_act_182 : decode cX16_act 182 = .ok (.aload_n 0, 1) := dk_get daX16_act 96 (r := (182, .aload_n 0, 1)) rfl
theorem dX16_act_183 : decode cX16_act 183 = .ok (.getfield 521, 3) := dk_get daX16_act 97 (r := (183, .getfield 521, 3)) rfl
theorem dX16_act_186 : decode cX16_act 186 = .ok (.iconst 1, 1) := dk_get daX16_act 98 (r := (186, .iconst 1, 1)) rfl
theorem dX16_act_187 : decode cX16_act 187 = .ok (.isub, 1) := dk_get daX16_act 99 (r := (187, .isub, 1)) rfl
theorem dX16_act_188 : decode cX16_act 188 = .ok (.aaload, 1) := dk_get daX16_act 100 (r := (188, .aaload, 1)) rfl
theorem dX16_act_189 : decode cX16_act 189 = .ok (.iconst 0, 1) := dk_get daX16_act 101 (r := (189, .iconst 0, 1)) rfl
theorem dX16_act_190 : decode cX16_act 190 = .ok (.aload_n 0, 1) := dk_get daX16_act 102 (r := (190, .aload_n 0, 1)) rfl
theorem dX16_act_191 : decode cX16_act 191 = .ok (.getfield 527, 3) := dk_get daX16_act 103 (r := (191, .getfield 527, 3)) rfl
theorem dX16_act_194 : decode cX16_act 194 = .ok (.aload_n 0, 1) := dk_get daX16_act 104 (r := (194, .aload_n 0, 1)) rfl
theorem dX16_act_195 : decode cX16_act 195 = .ok (.getfield 521, 3) := dk_get daX16_act 105 (r := (195, .getfield 521, 3)) rfl
theorem dX16_act_198 : decode cX16_act 198 = .ok (.iconst 2, 1) := dk_get daX16_act 106 (r := (198, .iconst 2, 1)) rfl
theorem dX16_act_199 : decode cX16_act 199 = .ok (.isub, 1) := dk_get daX16_act 107 (r := (199, .isub, 1)) rfl
theorem dX16_act_200 : decode cX16_act 200 = .ok (.aaload, 1) := dk_get daX16_act 108 (r := (200, .aaload, 1)) rfl
theorem dX16_act_201 : decode cX16_act 201 = .ok (.iconst 0, 1) := dk_get daX16_act 109 (r := (201, .iconst 0, 1)) rfl
theorem dX16_act_202 : decode cX16_act 202 = .ok (.aload_n 0, 1) := dk_get daX16_act 110 (r := (202, .aload_n 0, 1)) rfl
theorem dX16_act_203 : decode cX16_act 203 = .ok (.getfield 535, 3) := dk_get daX16_act 111 (r := (203, .getfield 535, 3)) rfl
theorem dX16_act_206 : decode cX16_act 206 = .ok (.aload_n 0, 1) := dk_get daX16_act 112 (r := (206, .aload_n 0, 1)) rfl
theorem dX16_act_207 : decode cX16_act 207 = .ok (.getfield 521, 3) := dk_get daX16_act 113 (r := (207, .getfield 521, 3)) rfl
theorem dX16_act_210 : decode cX16_act 210 = .ok (.iconst 1, 1) := dk_get daX16_act 114 (r := (210, .iconst 1, 1)) rfl
theorem dX16_act_211 : decode cX16_act 211 = .ok (.isub, 1) := dk_get daX16_act 115 (r := (211, .isub, 1)) rfl
theorem dX16_act_212 : decode cX16_act 212 = .ok (.iaload, 1) := dk_get daX16_act 116 (r := (212, .iaload, 1)) rfl
theorem dX16_act_213 : decode cX16_act 213 = .ok (.invokestatic 409, 3) := dk_get daX16_act 117 (r := (213, .invokestatic 409, 3)) rfl
theorem dX16_act_216 : decode cX16_act 216 = .ok (.ifCond .eq 7, 3) := dk_get daX16_act 118 (r := (216, .ifCond .eq 7, 3)) rfl
theorem dX16_act_219 : decode cX16_act 219 = .ok (.iconst 1, 1) := dk_get daX16_act 119 (r := (219, .iconst 1, 1)) rfl
theorem dX16_act_220 : decode cX16_act 220 = .ok (.goto 4, 3) := dk_get daX16_act 120 (r := (220, .goto 4, 3)) rfl
theorem dX16_act_223 : decode cX16_act 223 = .ok (.iconst 0, 1) := dk_get daX16_act 121 (r := (223, .iconst 0, 1)) rfl
theorem dX16_act_224 : decode cX16_act 224 = .ok (.istore 4, 2) := dk_get daX16_act 122 (r := (224, .istore 4, 2)) rfl
theorem dX16_act_226 : decode cX16_act 226 = .ok (.aload_n 0, 1) := dk_get daX16_act 123 (r := (226, .aload_n 0, 1)) rfl
theorem dX16_act_227 : decode cX16_act 227 = .ok (.dup, 1) := dk_get daX16_act 124 (r := (227, .dup, 1)) rfl
theorem dX16_act_228 : decode cX16_act 228 = .ok (.getfield 521, 3) := dk_get daX16_act 125 (r := (228, .getfield 521, 3)) rfl
theorem dX16_act_231 : decode cX16_act 231 = .ok (.iconst 2, 1) := dk_get daX16_act 126 (r := (231, .iconst 2, 1)) rfl
theorem dX16_act_232 : decode cX16_act 232 = .ok (.isub, 1) := dk_get daX16_act 127 (r := (232, .isub, 1)) rfl
theorem dX16_act_233 : decode cX16_act 233 = .ok (.putfield 521, 3) := dk_get daX16_act 128 (r := (233, .putfield 521, 3)) rfl
theorem dX16_act_236 : decode cX16_act 236 = .ok (.aload_n 0, 1) := dk_get daX16_act 129 (r := (236, .aload_n 0, 1)) rfl
theorem dX16_act_237 : decode cX16_act 237 = .ok (.iload 4, 2) := dk_get daX16_act 130 (r := (237, .iload 4, 2)) rfl
theorem dX16_act_239 : decode cX16_act 239 = .ok (.iload_n 1, 1) := dk_get daX16_act 131 (r := (239, .iload_n 1, 1)) rfl
theorem dX16_act_240 : decode cX16_act 240 = .ok (.sipush 136, 3) := dk_get daX16_act 132 (r := (240, .sipush 136, 3)) rfl
theorem dX16_act_243 : decode cX16_act 243 = .ok (.if_icmp .ne 7, 3) := dk_get daX16_act 133 (r := (243, .if_icmp .ne 7, 3)) rfl
theorem dX16_act_246 : decode cX16_act 246 = .ok (.iconst 1, 1) := dk_get daX16_act 134 (r := (246, .iconst 1, 1)) rfl
theorem dX16_act_247 : decode cX16_act 247 = .ok (.goto 4, 3) := dk_get daX16_act 135 (r := (247, .goto 4, 3)) rfl
theorem dX16_act_250 : decode cX16_act 250 = .ok (.iconst 0, 1) := dk_get daX16_act 136 (r := (250, .iconst 0, 1)) rfl
theorem dX16_act_251 : decode cX16_act 251 = .ok (.invokevirtual 595, 3) := dk_get daX16_act 137 (r := (251, .invokevirtual 595, 3)) rfl
theorem dX16_act_254 : decode cX16_act 254 = .ok (.goto 14, 3) := dk_get daX16_act 138 (r := (254, .goto 14, 3)) rfl
theorem dX16_act_257 : decode cX16_act 257 = .ok (.iload_n 1, 1) := dk_get daX16_act 139 (r := (257, .iload_n 1, 1)) rfl
theorem dX16_act_258 : decode cX16_act 258 = .ok (.bipush 97, 2) := dk_get daX16_act 140 (r := (258, .bipush 97, 2)) rfl
theorem dX16_act_260 : decode cX16_act 260 = .ok (.if_icmp .eq 8, 3) := dk_get daX16_act 141 (r := (260, .if_icmp .eq 8, 3)) rfl
theorem dX16_act_263 : decode cX16_act 263 = .ok (.aload_n 0, 1) := dk_get daX16_act 142 (r := (263, .aload_n 0, 1)) rfl
theorem dX16_act_264 : decode cX16_act 264 = .ok (.iconst 1, 1) := dk_get daX16_act 143 (r := (264, .iconst 1, 1)) rfl
theorem dX16_act_265 : decode cX16_act 265 = .ok (.putfield 524, 3) := dk_get daX16_act 144 (r := (265, .putfield 524, 3)) rfl
theorem dX16_act_268 : decode cX16_act 268 = .ok (.return_, 1) := dk_get daX16_act 145 (r := (268, .return_, 1)) rfl
abbrev mX16_move : ks_M := (RX16, cX16_move, 8, none, "move")
def drX16_move : List (Nat × Instr × Nat) := [(0, .aload_n 0, 1), (1, .getfield 603, 3), (4, .astore_n 2, 1), (5, .aload_n 0, 1), (6, .aload_n 2, 1), (7, .iload_n 1, 1), (8, .bipush 105, 2), (10, .isub, 1), (11, .iaload, 1), (12, .invokevirtual 582, 3), (15, .ifCond .ne 4, 3), (18, .return_, 1), (19, .iload_n 1, 1), (20, .tableswitch 569 105 124 #[96, 569, 131, 218, 316, 329, 329, 362, 375, 388, 401, 417, 429, 442, 450, 468, 476, 476, 553, 561], 96), (116, .aload_n 0, 1), (117, .dup, 1), (118, .getfield 524, 3), (121, .aload_n 0, 1), (122, .iconst 0, 1), (123, .invokevirtual 585, 3), (126, .ifCond .ne 7, 3), (129, .iconst 1, 1), (130, .goto 4, 3), (133, .iconst 0, 1), (134, .ior, 1), (135, .putfield 524, 3), (138, .aload_n 0, 1), (139, .dup, 1), (140, .getfield 521, 3), (143, .iconst 1, 1), (144, .isub, 1), (145, .putfield 521, 3), (148, .goto 456, 3), (151, .aload_n 0, 1), (152, .getfield 606, 3), (155, .aload_n 0, 1), (156, .getfield 560, 3), (159, .invokestatic 531, 3), (162, .astore_n 3, 1), (163, .aload_n 0, 1), (164, .getfield 606, 3), (167, .aload_n 0, 1), (168, .getfield 560, 3), (171, .aload_n 0, 1), (172, .getfield 527, 3), (175, .aload_n 0, 1), (176, .getfield 521, 3), (179, .iconst 1, 1), (180, .isub, 1), (181, .aaload, 1), (182, .aastore, 1), (183, .aload_n 0, 1), (184, .getfield 609, 3), (187, .aload_n 0, 1), (188, .getfield 560, 3), (191, .aload_n 0, 1), (192, .getfield 535, 3), (195, .aload_n 0, 1), (196, .getfield 521, 3), (199, .iconst 1, 1), (200, .isub, 1), (201, .iaload, 1), (202, .iastore, 1), (203, .aload_n 0, 1), (204, .getfield 527, 3), (207, .aload_n 0, 1), (208, .getfield 521, 3), (211, .iconst 1, 1), (212, .isub, 1), (213, .aload_n 3, 1), (214, .aastore, 1), (215, .aload_n 0, 1), (216, .dup, 1), (217, .getfield 560, 3), (220, .iconst 1, 1), (221, .iadd, 1), (222, .putfield 560, 3), (225, .aload_n 0, 1), (226, .dup, 1), (227, .getfield 521, 3), (230, .iconst 1, 1), (231, .isub, 1), (232, .putfield 521, 3), (235, .goto 369, 3), (238, .aload_n 0, 1), (239, .getfield 560, 3), (242, .ifCond .ne 11, 3), (245, .aload_n 0, 1), (246, .iconst 1, 1), (247, .putfield 524, 3), (250, .goto 354, 3), (253, .aload_n 0, 1), (254, .getfield 527, 3), (257, .aload_n 0, 1), (258, .getfield 521, 3), (261, .invokestatic 531, 3), (264, .astore 4, 2), (266, .aload_n 0, 1), (267, .dup, 1), (268, .getfield 560, 3), (271, .iconst 1, 1), (272, .isub, 1), (273, .putfield 560, 3), (276, .aload_n 0, 1), (277, .getfield 527, 3), (280, .aload_n 0, 1), (281, .getfield 521, 3), (284, .aload_n 0, 1), (285, .getfield 606, 3), (288, .aload_n 0, 1), (289, .getfield 560, 3), (292, .aaload, 1), (293, .aastore, 1), (294, .aload_n 0, 1), (295, .getfield 535, 3), (298, .aload_n 0, 1), (299, .getfield 521, 3), (302, .aload_n 0, 1), (303, .getfield 609, 3), (306, .aload_n 0, 1), (307, .getfield 560, 3), (310, .iaload, 1), (311, .iastore, 1), (312, .aload_n 0, 1), (313, .getfield 606, 3), (316, .aload_n 0, 1), (317, .getfield 560, 3), (320, .aload 4, 2), (322, .aastore, 1), (323, .aload_n 0, 1), (324, .dup, 1), (325, .getfield 521, 3), (328, .iconst 1, 1), (329, .iadd, 1), (330, .putfield 521, 3), (333, .goto 271, 3), (336, .aload_n 0, 1), (337, .dup, 1), (338, .getfield 521, 3), (341, .iconst 2, 1), (342, .isub, 1), (343, .putfield 521, 3), (346, .goto 258, 3), (349, .iload_n 1, 1), (350, .bipush 108, 2), (352, .isub, 1), (353, .istore 5, 2), (355, .iconst 0, 1), (356, .istore 6, 2), (358, .iload 6, 2), (360, .iload 5, 2), (362, .if_icmp .ge 17, 3), (365, .aload_n 0, 1), (366, .iload 5, 2), (368, .iconst 1, 1), (369, .isub, 1), (370, .invokevirtual 612, 3), (373, .iinc 6 1, 3), (376, .goto (-18), 3), (379, .goto 225, 3), (382, .aload_n 0, 1), (383, .iconst 3, 1), (384, .invokevirtual 612, 3), (387, .aload_n 0, 1), (388, .iconst 3, 1), (389, .invokevirtual 612, 3), (392, .goto 212, 3), (395, .aload_n 0, 1), (396, .iconst 5, 1), (397, .invokevirtual 614, 3), (400, .aload_n 0, 1), (401, .iconst 5, 1), (402, .invokevirtual 614, 3), (405, .goto 199, 3), (408, .aload_n 0, 1), (409, .iconst 3, 1), (410, .invokevirtual 614, 3), (413, .aload_n 0, 1), (414, .iconst 3, 1), (415, .invokevirtual 614, 3), (418, .goto 186, 3), (421, .aload_n 0, 1), (422, .iconst 0, 1), (423, .invokevirtual 585, 3), (426, .ifCond .eq 178, 3), (429, .aload_n 0, 1), (430, .iconst 0, 1), (431, .invokevirtual 612, 3), (434, .goto 170, 3), (437, .aload_n 0, 1), (438, .aload_n 0, 1), (439, .getfield 521, 3), (442, .i2l, 1), (443, .invokevirtual 545, 3), (446, .goto 158, 3), (449, .aload_n 0, 1), (450, .dup, 1), (451, .getfield 521, 3), (454, .iconst 1, 1), (455, .isub, 1), (456, .putfield 521, 3), (459, .goto 145, 3), (462, .aload_n 0, 1), (463, .iconst 0, 1), (464, .invokevirtual 612, 3), (467, .goto 137, 3), (470, .aload_n 0, 1), (471, .iconst 1, 1), (472, .invokevirtual 614, 3), (475, .aload_n 0, 1), (476, .dup, 1), (477, .getfield 521, 3), (480, .iconst 1, 1), (481, .isub, 1), (482, .putfield 521, 3), (485, .goto 119, 3), (488, .aload_n 0, 1), (489, .iconst 1, 1), (490, .invokevirtual 612, 3), (493, .goto 111, 3), (496, .aload_n 0, 1), (497, .iconst 0, 1), (498, .iconst 4, 1), (499, .invokevirtual 617, 3), (502, .lstore 6, 2), (504, .aload_n 0, 1), (505, .dup, 1), (506, .getfield 521, 3), (509, .iconst 1, 1), (510, .isub, 1), (511, .putfield 521, 3), (514, .aload_n 0, 1), (515, .getfield 524, 3), (518, .ifCond .ne 21, 3), (521, .lload 6, 2), (523, .lconst 0, 1), (524, .lcmp, 1), (525, .ifCond .lt 14, 3), (528, .lload 6, 2), (530, .aload_n 0, 1), (531, .getfield 521, 3), (534, .i2l, 1), (535, .lcmp, 1), (536, .ifCond .lt 11, 3), (539, .aload_n 0, 1), (540, .iconst 1, 1), (541, .putfield 524, 3), (544, .goto 60, 3), (547, .iload_n 1, 1), (548, .bipush 121, 2), (550, .if_icmp .ne 13, 3), (553, .aload_n 0, 1), (554, .lload 6, 2), (556, .l2i, 1), (557, .invokevirtual 612, 3), (560, .goto 44, 3), (563, .aload_n 0, 1), (564, .lload 6, 2), (566, .l2i, 1), (567, .invokevirtual 614, 3), (570, .goto 34, 3), (573, .aload_n 0, 1), (574, .iconst 2, 1), (575, .invokevirtual 614, 3), (578, .goto 26, 3), (581, .aload_n 0, 1), (582, .iconst 1, 1), (583, .invokevirtual 614, 3), (586, .goto 18, 3), (589, .aload_n 0, 1), (590, .iconst 0, 1), (591, .invokevirtual 612, 3), (594, .aload_n 0, 1), (595, .iconst 2, 1), (596, .invokevirtual 614, 3), (599, .aload_n 0, 1), (600, .iconst 2, 1), (601, .invokevirtual 614, 3), (604, .return_, 1)]
set_option maxRecDepth 100000 in
theorem daX16_move : dk_all cX16_move drX16_move = true := by decide +kernel
theorem dX16_move_0 : decode cX16_move 0 = .ok (.aload_n 0, 1) := dk_get daX16_move 0 (r := (0, .aload_n 0, 1)) rfl
theorem dX16_move_1 : decode cX16_move 1 = .ok (.getfield 603, 3) := dk_get daX16_move 1 (r := (1, .getfield 603, 3)) rfl
theorem dX16_move_4 : decode cX16_move 4 = .ok (.astore_n 2, 1) := dk_get daX16_move 2 (r := (4, .astore_n 2, 1)) rfl
theorem dX16_move_5 : decode cX16_move 5 = .ok (.aload_n 0, 1) := dk_get daX16_move 3 (r := (5, .aload_n 0, 1)) rfl
theorem dX16_move_6 : decode cX16_move 6 = .ok (.aload_n 2, 1) := dk_get daX16_move 4 (r := (6, .aload_n 2, 1)) rfl
theorem dX16_move_7 : decode cX16_move 7 = .ok (.iload_n 1, 1) := dk_get daX16_move 5 (r := (7, .iload_n 1, 1)) rfl
theorem dX16_move_8 : decode cX16_move 8 = .ok (.bipush 105, 2) := dk_get daX16_move 6 (r := (8, .bipush 105, 2)) rfl
theorem dX16_move_10 : decode cX16_move 10 = .ok (.isub, 1) := dk_get daX16_move 7 (r := (10, .isub, 1)) rfl
theorem dX16_move_11 : decode cX16_move 11 = .ok (.iaload, 1) := dk_get daX16_move 8 (r := (11, .iaload, 1)) rfl
theorem dX16_move_12 : decode cX16_move 12 = .ok (.invokevirtual 582, 3) := dk_get daX16_move 9 (r := (12, .invokevirtual 582, 3)) rfl
theorem dX16_move_15 : decode cX16_move 15 = .ok (.ifCond .ne 4, 3) := dk_get daX16_move 10 (r := (15, .ifCond .ne 4, 3)) rfl
theorem dX16_move_18 : decode cX16_move 18 = .ok (.return_, 1) := dk_get daX16_move 11 (r := (18, .return_, 1)) rfl
theorem dX16_move_19 : decode cX16_move 19 = .ok (.iload_n 1, 1) := dk_get daX16_move 12 (r := (19, .iload_n 1, 1)) rfl
theorem dX16_move_20 : decode cX16_move 20 = .ok (.tableswitch 569 105 124 #[96, 569, 131, 218, 316, 329, 329, 362, 375, 388, 401, 417, 429, 442, 450, 468, 476, 476, 553, 561], 96) := dk_get daX16_move 13 (r := (20, .tableswitch 569 105 124 #[96, 569, 131, 218, 316, 329, 329, 362, 375, 388, 401, 417, 429, 442, 450, 468, 476, 476, 553, 561], 96)) rfl
theorem dX16_move_116 : decode cX16_move 116 = .ok (.aload_n 0, 1) := dk_get daX16_move 14 (r := (116, .aload_n 0, 1)) rfl
theorem dX16_move_117 : decode cX16_move 117 = .ok (.dup, 1) := dk_get daX16_move 15 (r := (117, .dup, 1)) rfl
theorem dX16_move_118 : decode cX16_move 118 = .ok (.getfield 524, 3) := dk_get daX16_move 16 (r := (118, .getfield 524, 3)) rfl
theorem dX16_move_121 : decode cX16_move 121 = .ok (.aload_n 0, 1) := dk_get daX16_move 17 (r := (121, .aload_n 0, 1)) rfl
theorem dX16_move_122 : decode cX16_move 122 = .ok (.iconst 0, 1) := dk_get daX16_move 18 (r := (122, .iconst 0, 1)) rfl
theorem dX16_move_123 : decode cX16_move 123 = .ok (.invokevirtual 585, 3) := dk_get daX16_move 19 (r := (123, .invokevirtual 585, 3)) rfl
theorem dX16_move_126 : decode cX16_move 126 = .ok (.ifCond .ne 7, 3) := dk_get daX16_move 20 (r := (126, .ifCond .ne 7, 3)) rfl
theorem dX16_move_129 : decode cX16_move 129 = .ok (.iconst 1, 1) := dk_get daX16_move 21 (r := (129, .iconst 1, 1)) rfl
theorem dX16_move_130 : decode cX16_move 130 = .ok (.goto 4, 3) := dk_get daX16_move 22 (r := (130, .goto 4, 3)) rfl
theorem dX16_move_133 : decode cX16_move 133 = .ok (.iconst 0, 1) := dk_get daX16_move 23 (r := (133, .iconst 0, 1)) rfl
theorem dX16_move_134 : decode cX16_move 134 = .ok (.ior, 1) := dk_get daX16_move 24 (r := (134, .ior, 1)) rfl
theorem dX16_move_135 : decode cX16_move 135 = .ok (.putfield 524, 3) := dk_get daX16_move 25 (r := (135, .putfield 524, 3)) rfl
theorem dX16_move_138 : decode cX16_move 138 = .ok (.aload_n 0, 1) := dk_get daX16_move 26 (r := (138, .aload_n 0, 1)) rfl
theorem dX16_move_139 : decode cX16_move 139 = .ok (.dup, 1) := dk_get daX16_move 27 (r := (139, .dup, 1)) rfl
theorem dX16_move_140 : decode cX16_move 140 = .ok (.getfield 521, 3) := dk_get daX16_move 28 (r := (140, .getfield 521, 3)) rfl
theorem dX16_move_143 : decode cX16_move 143 = .ok (.iconst 1, 1) := dk_get daX16_move 29 (r := (143, .iconst 1, 1)) rfl
theorem dX16_move_144 : decode cX16_move 144 = .ok (.isub, 1) := dk_get daX16_move 30 (r := (144, .isub, 1)) rfl
theorem dX16_move_145 : decode cX16_move 145 = .ok (.putfield 521, 3) := dk_get daX16_move 31 (r := (145, .putfield 521, 3)) rfl
theorem dX16_move_148 : decode cX16_move 148 = .ok (.goto 456, 3) := dk_get daX16_move 32 (r := (148, .goto 456, 3)) rfl
theorem dX16_move_151 : decode cX16_move 151 = .ok (.aload_n 0, 1) := dk_get daX16_move 33 (r := (151, .aload_n 0, 1)) rfl
theorem dX16_move_152 : decode cX16_move 152 = .ok (.getfield 606, 3) := dk_get daX16_move 34 (r := (152, .getfield 606, 3)) rfl
theorem dX16_move_155 : decode cX16_move 155 = .ok (.aload_n 0, 1) := dk_get daX16_move 35 (r := (155, .aload_n 0, 1)) rfl
theorem dX16_move_156 : decode cX16_move 156 = .ok (.getfield 560, 3) := dk_get daX16_move 36 (r := (156, .getfield 560, 3)) rfl
theorem dX16_move_159 : decode cX16_move 159 = .ok (.invokestatic 531, 3) := dk_get daX16_move 37 (r := (159, .invokestatic 531, 3)) rfl
theorem dX16_move_162 : decode cX16_move 162 = .ok (.astore_n 3, 1) := dk_get daX16_move 38 (r := (162, .astore_n 3, 1)) rfl
theorem dX16_move_163 : decode cX16_move 163 = .ok (.aload_n 0, 1) := dk_get daX16_move 39 (r := (163, .aload_n 0, 1)) rfl
theorem dX16_move_164 : decode cX16_move 164 = .ok (.getfield 606, 3) := dk_get daX16_move 40 (r := (164, .getfield 606, 3)) rfl
theorem dX16_move_167 : decode cX16_move 167 = .ok (.aload_n 0, 1) := dk_get daX16_move 41 (r := (167, .aload_n 0, 1)) rfl
theorem dX16_move_168 : decode cX16_move 168 = .ok (.getfield 560, 3) := dk_get daX16_move 42 (r := (168, .getfield 560, 3)) rfl
theorem dX16_move_171 : decode cX16_move 171 = .ok (.aload_n 0, 1) := dk_get daX16_move 43 (r := (171, .aload_n 0, 1)) rfl
theorem dX16_move_172 : decode cX16_move 172 = .ok (.getfield 527, 3) := dk_get daX16_move 44 (r := (172, .getfield 527, 3)) rfl
theorem dX16_move_175 : decode cX16_move 175 = .ok (.aload_n 0, 1) := dk_get daX16_move 45 (r := (175, .aload_n 0, 1)) rfl
theorem dX16_move_176 : decode cX16_move 176 = .ok (.getfield 521, 3) := dk_get daX16_move 46 (r := (176, .getfield 521, 3)) rfl
theorem dX16_move_179 : decode cX16_move 179 = .ok (.iconst 1, 1) := dk_get daX16_move 47 (r := (179, .iconst 1, 1)) rfl
theorem dX16_move_180 : decode cX16_move 180 = .ok (.isub, 1) := dk_get daX16_move 48 (r := (180, .isub, 1)) rfl
theorem dX16_move_181 : decode cX16_move 181 = .ok (.aaload, 1) := dk_get daX16_move 49 (r := (181, .aaload, 1)) rfl
theorem dX16_move_182 : decode cX16_move 182 = .ok (.aastore, 1) := dk_get daX16_move 50 (r := (182, .aastore, 1)) rfl
theorem dX16_move_183 : decode cX16_move 183 = .ok (.aload_n 0, 1) := dk_get daX16_move 51 (r := (183, .aload_n 0, 1)) rfl
theorem dX16_move_184 : decode cX16_move 184 = .ok (.getfield 609, 3) := dk_get daX16_move 52 (r := (184, .getfield 609, 3)) rfl
theorem dX16_move_187 : decode cX16_move 187 = .ok (.aload_n 0, 1) := dk_get daX16_move 53 (r := (187, .aload_n 0, 1)) rfl
theorem dX16_move_188 : decode cX16_move 188 = .ok (.getfield 560, 3) := dk_get daX16_move 54 (r := (188, .getfield 560, 3)) rfl
theorem dX16_move_191 : decode cX16_move 191 = .ok (.aload_n 0, 1) := dk_get daX16_move 55 (r := (191, .aload_n 0, 1)) rfl
theorem dX16_move_192 : decode cX16_move 192 = .ok (.getfield 535, 3) := dk_get daX16_move 56 (r := (192, .getfield 535, 3)) rfl
theorem dX16_move_195 : decode cX16_move 195 = .ok (.aload_n 0, 1) := dk_get daX16_move 57 (r := (195, .aload_n 0, 1)) rfl
theorem dX16_move_196 : decode cX16_move 196 = .ok (.getfield 521, 3) := dk_get daX16_move 58 (r := (196, .getfield 521, 3)) rfl
theorem dX16_move_199 : decode cX16_move 199 = .ok (.iconst 1, 1) := dk_get daX16_move 59 (r := (199, .iconst 1, 1)) rfl
theorem dX16_move_200 : decode cX16_move 200 = .ok (.isub, 1) := dk_get daX16_move 60 (r := (200, .isub, 1)) rfl
theorem dX16_move_201 : decode cX16_move 201 = .ok (.iaload, 1) := dk_get daX16_move 61 (r := (201, .iaload, 1)) rfl
theorem dX16_move_202 : decode cX16_move 202 = .ok (.iastore, 1) := dk_get daX16_move 62 (r := (202, .iastore, 1)) rfl
theorem dX16_move_203 : decode cX16_move 203 = .ok (.aload_n 0, 1) := dk_get daX16_move 63 (r := (203, .aload_n 0, 1)) rfl
theorem dX16_move_204 : decode cX16_move 204 = .ok (.getfield 527, 3) := dk_get daX16_move 64 (r := (204, .getfield 527, 3)) rfl
theorem dX16_move_207 : decode cX16_move 207 = .ok (.aload_n 0, 1) := dk_get daX16_move 65 (r := (207, .aload_n 0, 1)) rfl
theorem dX16_move_208 : decode cX16_move 208 = .ok (.getfield 521, 3) := dk_get daX16_move 66 (r := (208, .getfield 521, 3)) rfl
theorem dX16_move_211 : decode cX16_move 211 = .ok (.iconst 1, 1) := dk_get daX16_move 67 (r := (211, .iconst 1, 1)) rfl
theorem dX16_move_212 : decode cX16_move 212 = .ok (.isub, 1) := dk_get daX16_move 68 (r := (212, .isub, 1)) rfl
theorem dX16_move_213 : decode cX16_move 213 = .ok (.aload_n 3, 1) := dk_get daX16_move 69 (r := (213, .aload_n 3, 1)) rfl
theorem dX16_move_214 : decode cX16_move 214 = .ok (.aastore, 1) := dk_get daX16_move 70 (r := (214, .aastore, 1)) rfl
theorem dX16_move_215 : decode cX16_move 215 = .ok (.aload_n 0, 1) := dk_get daX16_move 71 (r := (215, .aload_n 0, 1)) rfl
theorem dX16_move_216 : decode cX16_move 216 = .ok (.dup, 1) := dk_get daX16_move 72 (r := (216, .dup, 1)) rfl
theorem dX16_move_217 : decode cX16_move 217 = .ok (.getfield 560, 3) := dk_get daX16_move 73 (r := (217, .getfield 560, 3)) rfl
theorem dX16_move_220 : decode cX16_move 220 = .ok (.iconst 1, 1) := dk_get daX16_move 74 (r := (220, .iconst 1, 1)) rfl
theorem dX16_move_221 : decode cX16_move 221 = .ok (.iadd, 1) := dk_get daX16_move 75 (r := (221, .iadd, 1)) rfl
theorem dX16_move_222 : decode cX16_move 222 = .ok (.putfield 560, 3) := dk_get daX16_move 76 (r := (222, .putfield 560, 3)) rfl
theorem dX16_move_225 : decode cX16_move 225 = .ok (.aload_n 0, 1) := dk_get daX16_move 77 (r := (225, .aload_n 0, 1)) rfl
theorem dX16_move_226 : decode cX16_move 226 = .ok (.dup, 1) := dk_get daX16_move 78 (r := (226, .dup, 1)) rfl
theorem dX16_move_227 : decode cX16_move 227 = .ok (.getfield 521, 3) := dk_get daX16_move 79 (r := (227, .getfield 521, 3)) rfl
theorem dX16_move_230 : decode cX16_move 230 = .ok (.iconst 1, 1) := dk_get daX16_move 80 (r := (230, .iconst 1, 1)) rfl
theorem dX16_move_231 : decode cX16_move 231 = .ok (.isub, 1) := dk_get daX16_move 81 (r := (231, .isub, 1)) rfl
theorem dX16_move_232 : decode cX16_move 232 = .ok (.putfield 521, 3) := dk_get daX16_move 82 (r := (232, .putfield 521, 3)) rfl
theorem dX16_move_235 : decode cX16_move 235 = .ok (.goto 369, 3) := dk_get daX16_move 83 (r := (235, .goto 369, 3)) rfl
theorem dX16_move_238 : decode cX16_move 238 = .ok (.aload_n 0, 1) := dk_get daX16_move 84 (r := (238, .aload_n 0, 1)) rfl
theorem dX16_move_239 : decode cX16_move 239 = .ok (.getfield 560, 3) := dk_get daX16_move 85 (r := (239, .getfield 560, 3)) rfl
theorem dX16_move_242 : decode cX16_move 242 = .ok (.ifCond .ne 11, 3) := dk_get daX16_move 86 (r := (242, .ifCond .ne 11, 3)) rfl
theorem dX16_move_245 : decode cX16_move 245 = .ok (.aload_n 0, 1) := dk_get daX16_move 87 (r := (245, .aload_n 0, 1)) rfl
theorem dX16_move_246 : decode cX16_move 246 = .ok (.iconst 1, 1) := dk_get daX16_move 88 (r := (246, .iconst 1, 1)) rfl
theorem dX16_move_247 : decode cX16_move 247 = .ok (.putfield 524, 3) := dk_get daX16_move 89 (r := (247, .putfield 524, 3)) rfl
theorem dX16_move_250 : decode cX16_move 250 = .ok (.goto 354, 3) := dk_get daX16_move 90 (r := (250, .goto 354, 3)) rfl
theorem dX16_move_253 : decode cX16_move 253 = .ok (.aload_n 0, 1) := dk_get daX16_move 91 (r := (253, .aload_n 0, 1)) rfl
theorem dX16_move_254 : decode cX16_move 254 = .ok (.getfield 527, 3) := dk_get daX16_move 92 (r := (254, .getfield 527, 3)) rfl
theorem dX16_move_257 : decode cX16_move 257 = .ok (.aload_n 0, 1) := dk_get daX16_move 93 (r := (257, .aload_n 0, 1)) rfl
theorem dX16_move_258 : decode cX16_move 258 = .ok (.getfield 521, 3) := dk_get daX16_move 94 (r := (258, .getfield 521, 3)) rfl
theorem dX16_move_261 : decode cX16_move 261 = .ok (.invokestatic 531, 3) := dk_get daX16_move 95 (r := (261, .invokestatic 531, 3)) rfl
theorem dX16_move_264 : decode cX16_move 264 = .ok (.astore 4, 2) := dk_get daX16_move 96 (r := (264, .astore 4, 2)) rfl
theorem dX16_move_266 : decode cX16_move 266 = .ok (.aload_n 0, 1) := dk_get daX16_move 97 (r := (266, .aload_n 0, 1)) rfl
theorem dX16_move_267 : decode cX16_move 267 = .ok (.dup, 1) := dk_get daX16_move 98 (r := (267, .dup, 1)) rfl
theorem dX16_move_268 : decode cX16_move 268 = .ok (.getfield 560, 3) := dk_get daX16_move 99 (r := (268, .getfield 560, 3)) rfl
theorem dX16_move_271 : decode cX16_move 271 = .ok (.iconst 1, 1) := dk_get daX16_move 100 (r := (271, .iconst 1, 1)) rfl
theorem dX16_move_272 : decode cX16_move 272 = .ok (.isub, 1) := dk_get daX16_move 101 (r := (272, .isub, 1)) rfl
theorem dX16_move_273 : decode cX16_move 273 = .ok (.putfield 560, 3) := dk_get daX16_move 102 (r := (273, .putfield 560, 3)) rfl
theorem dX16_move_276 : decode cX16_move 276 = .ok (.aload_n 0, 1) := dk_get daX16_move 103 (r := (276, .aload_n 0, 1)) rfl
theorem dX16_move_277 : decode cX16_move 277 = .ok (.getfield 527, 3) := dk_get daX16_move 104 (r := (277, .getfield 527, 3)) rfl
theorem dX16_move_280 : decode cX16_move 280 = .ok (.aload_n 0, 1) := dk_get daX16_move 105 (r := (280, .aload_n 0, 1)) rfl
theorem dX16_move_281 : decode cX16_move 281 = .ok (.getfield 521, 3) := dk_get daX16_move 106 (r := (281, .getfield 521, 3)) rfl
theorem dX16_move_284 : decode cX16_move 284 = .ok (.aload_n 0, 1) := dk_get daX16_move 107 (r := (284, .aload_n 0, 1)) rfl
theorem dX16_move_285 : decode cX16_move 285 = .ok (.getfield 606, 3) := dk_get daX16_move 108 (r := (285, .getfield 606, 3)) rfl
theorem dX16_move_288 : decode cX16_move 288 = .ok (.aload_n 0, 1) := dk_get daX16_move 109 (r := (288, .aload_n 0, 1)) rfl
theorem dX16_move_289 : decode cX16_move 289 = .ok (.getfield 560, 3) := dk_get daX16_move 110 (r := (289, .getfield 560, 3)) rfl
theorem dX16_move_292 : decode cX16_move 292 = .ok (.aaload, 1) := dk_get daX16_move 111 (r := (292, .aaload, 1)) rfl
theorem dX16_move_293 : decode cX16_move 293 = .ok (.aastore, 1) := dk_get daX16_move 112 (r := (293, .aastore, 1)) rfl
theorem dX16_move_294 : decode cX16_move 294 = .ok (.aload_n 0, 1) := dk_get daX16_move 113 (r := (294, .aload_n 0, 1)) rfl
theorem dX16_move_295 : decode cX16_move 295 = .ok (.getfield 535, 3) := dk_get daX16_move 114 (r := (295, .getfield 535, 3)) rfl
theorem dX16_move_298 : decode cX16_move 298 = .ok (.aload_n 0, 1) := dk_get daX16_move 115 (r := (298, .aload_n 0, 1)) rfl
theorem dX16_move_299 : decode cX16_move 299 = .ok (.getfield 521, 3) := dk_get daX16_move 116 (r := (299, .getfield 521, 3)) rfl
theorem dX16_move_302 : decode cX16_move 302 = .ok (.aload_n 0, 1) := dk_get daX16_move 117 (r := (302, .aload_n 0, 1)) rfl
theorem dX16_move_303 : decode cX16_move 303 = .ok (.getfield 609, 3) := dk_get daX16_move 118 (r := (303, .getfield 609, 3)) rfl
theorem dX16_move_306 : decode cX16_move 306 = .ok (.aload_n 0, 1) := dk_get daX16_move 119 (r := (306, .aload_n 0, 1)) rfl
theorem dX16_move_307 : decode cX16_move 307 = .ok (.getfield 560, 3) := dk_get daX16_move 120 (r := (307, .getfield 560, 3)) rfl
theorem dX16_move_310 : decode cX16_move 310 = .ok (.iaload, 1) := dk_get daX16_move 121 (r := (310, .iaload, 1)) rfl
theorem dX16_move_311 : decode cX16_move 311 = .ok (.iastore, 1) := dk_get daX16_move 122 (r := (311, .iastore, 1)) rfl
theorem dX16_move_312 : decode cX16_move 312 = .ok (.aload_n 0, 1) := dk_get daX16_move 123 (r := (312, .aload_n 0, 1)) rfl
theorem dX16_move_313 : decode cX16_move 313 = .ok (.getfield 606, 3) := dk_get daX16_move 124 (r := (313, .getfield 606, 3)) rfl
theorem dX16_move_316 : decode cX16_move 316 = .ok (.aload_n 0, 1) := dk_get daX16_move 125 (r := (316, .aload_n 0, 1)) rfl
theorem dX16_move_317 : decode cX16_move 317 = .ok (.getfield 560, 3) := dk_get daX16_move 126 (r := (317, .getfield 560, 3)) rfl
theorem dX16_move_320 : decode cX16_move 320 = .ok (.aload 4, 2) := dk_get daX16_move 127 (r := (320, .aload 4, 2)) rfl
theorem dX16_move_322 : decode cX16_move 322 = .ok (.aastore, 1) := dk_get daX16_move 128 (r := (322, .aastore, 1)) rfl
theorem dX16_move_323 : decode cX16_move 323 = .ok (.aload_n 0, 1) := dk_get daX16_move 129 (r := (323, .aload_n 0, 1)) rfl
theorem dX16_move_324 : decode cX16_move 324 = .ok (.dup, 1) := dk_get daX16_move 130 (r := (324, .dup, 1)) rfl
theorem dX16_move_325 : decode cX16_move 325 = .ok (.getfield 521, 3) := dk_get daX16_move 131 (r := (325, .getfield 521, 3)) rfl
theorem dX16_move_328 : decode cX16_move 328 = .ok (.iconst 1, 1) := dk_get daX16_move 132 (r := (328, .iconst 1, 1)) rfl
theorem dX16_move_329 : decode cX16_move 329 = .ok (.iadd, 1) := dk_get daX16_move 133 (r := (329, .iadd, 1)) rfl
theorem dX16_move_330 : decode cX16_move 330 = .ok (.putfield 521, 3) := dk_get daX16_move 134 (r := (330, .putfield 521, 3)) rfl
theorem dX16_move_333 : decode cX16_move 333 = .ok (.goto 271, 3) := dk_get daX16_move 135 (r := (333, .goto 271, 3)) rfl
theorem dX16_move_336 : decode cX16_move 336 = .ok (.aload_n 0, 1) := dk_get daX16_move 136 (r := (336, .aload_n 0, 1)) rfl
theorem dX16_move_337 : decode cX16_move 337 = .ok (.dup, 1) := dk_get daX16_move 137 (r := (337, .dup, 1)) rfl
theorem dX16_move_338 : decode cX16_move 338 = .ok (.getfield 521, 3) := dk_get daX16_move 138 (r := (338, .getfield 521, 3)) rfl
theorem dX16_move_341 : decode cX16_move 341 = .ok (.iconst 2, 1) := dk_get daX16_move 139 (r := (341, .iconst 2, 1)) rfl
theorem dX16_move_342 : decode cX16_move 342 = .ok (.isub, 1) := dk_get daX16_move 140 (r := (342, .isub, 1)) rfl
theorem dX16_move_343 : decode cX16_move 343 = .ok (.putfield 521, 3) := dk_get daX16_move 141 (r := (343, .putfield 521, 3)) rfl
theorem dX16_move_346 : decode cX16_move 346 = .ok (.goto 258, 3) := dk_get daX16_move 142 (r := (346, .goto 258, 3)) rfl
theorem dX16_move_349 : decode cX16_move 349 = .ok (.iload_n 1, 1) := dk_get daX16_move 143 (r := (349, .iload_n 1, 1)) rfl
theorem dX16_move_350 : decode cX16_move 350 = .ok (.bipush 108, 2) := dk_get daX16_move 144 (r := (350, .bipush 108, 2)) rfl
theorem dX16_move_352 : decode cX16_move 352 = .ok (.isub, 1) := dk_get daX16_move 145 (r := (352, .isub, 1)) rfl
theorem dX16_move_353 : decode cX16_move 353 = .ok (.istore 5, 2) := dk_get daX16_move 146 (r := (353, .istore 5, 2)) rfl
theorem dX16_move_355 : decode cX16_move 355 = .ok (.iconst 0, 1) := dk_get daX16_move 147 (r := (355, .iconst 0, 1)) rfl
theorem dX16_move_356 : decode cX16_move 356 = .ok (.istore 6, 2) := dk_get daX16_move 148 (r := (356, .istore 6, 2)) rfl
theorem dX16_move_358 : decode cX16_move 358 = .ok (.iload 6, 2) := dk_get daX16_move 149 (r := (358, .iload 6, 2)) rfl
theorem dX16_move_360 : decode cX16_move 360 = .ok (.iload 5, 2) := dk_get daX16_move 150 (r := (360, .iload 5, 2)) rfl
theorem dX16_move_362 : decode cX16_move 362 = .ok (.if_icmp .ge 17, 3) := dk_get daX16_move 151 (r := (362, .if_icmp .ge 17, 3)) rfl
theorem dX16_move_365 : decode cX16_move 365 = .ok (.aload_n 0, 1) := dk_get daX16_move 152 (r := (365, .aload_n 0, 1)) rfl
theorem dX16_move_366 : decode cX16_move 366 = .ok (.iload 5, 2) := dk_get daX16_move 153 (r := (366, .iload 5, 2)) rfl
theorem dX16_move_368 : decode cX16_move 368 = .ok (.iconst 1, 1) := dk_get daX16_move 154 (r := (368, .iconst 1, 1)) rfl
theorem dX16_move_369 : decode cX16_move 369 = .ok (.isub, 1) := dk_get daX16_move 155 (r := (369, .isub, 1)) rfl
theorem dX16_move_370 : decode cX16_move 370 = .ok (.invokevirtual 612, 3) := dk_get daX16_move 156 (r := (370, .invokevirtual 612, 3)) rfl
theorem dX16_move_373 : decode cX16_move 373 = .ok (.iinc 6 1, 3) := dk_get daX16_move 157 (r := (373, .iinc 6 1, 3)) rfl
theorem dX16_move_376 : decode cX16_move 376 = .ok (.goto (-18), 3) := dk_get daX16_move 158 (r := (376, .goto (-18), 3)) rfl
theorem dX16_move_379 : decode cX16_move 379 = .ok (.goto 225, 3) := dk_get daX16_move 159 (r := (379, .goto 225, 3)) rfl
theorem dX16_move_382 : decode cX16_move 382 = .ok (.aload_n 0, 1) := dk_get daX16_move 160 (r := (382, .aload_n 0, 1)) rfl
theorem dX16_move_383 : decode cX16_move 383 = .ok (.iconst 3, 1) := dk_get daX16_move 161 (r := (383, .iconst 3, 1)) rfl
theorem dX16_move_384 : decode cX16_move 384 = .ok (.invokevirtual 612, 3) := dk_get daX16_move 162 (r := (384, .invokevirtual 612, 3)) rfl
theorem dX16_move_387 : decode cX16_move 387 = .ok (.aload_n 0, 1) := dk_get daX16_move 163 (r := (387, .aload_n 0, 1)) rfl
theorem dX16_move_388 : decode cX16_move 388 = .ok (.iconst 3, 1) := dk_get daX16_move 164 (r := (388, .iconst 3, 1)) rfl
theorem dX16_move_389 : decode cX16_move 389 = .ok (.invokevirtual 612, 3) := dk_get daX16_move 165 (r := (389, .invokevirtual 612, 3)) rfl
theorem dX16_move_392 : decode cX16_move 392 = .ok (.goto 212, 3) := dk_get daX16_move 166 (r := (392, .goto 212, 3)) rfl
theorem dX16_move_395 : decode cX16_move 395 = .ok (.aload_n 0, 1) := dk_get daX16_move 167 (r := (395, .aload_n 0, 1)) rfl
theorem dX16_move_396 : decode cX16_move 396 = .ok (.iconst 5, 1) := dk_get daX16_move 168 (r := (396, .iconst 5, 1)) rfl
theorem dX16_move_397 : decode cX16_move 397 = .ok (.invokevirtual 614, 3) := dk_get daX16_move 169 (r := (397, .invokevirtual 614, 3)) rfl
theorem dX16_move_400 : decode cX16_move 400 = .ok (.aload_n 0, 1) := dk_get daX16_move 170 (r := (400, .aload_n 0, 1)) rfl
theorem dX16_move_401 : decode cX16_move 401 = .ok (.iconst 5, 1) := dk_get daX16_move 171 (r := (401, .iconst 5, 1)) rfl
theorem dX16_move_402 : decode cX16_move 402 = .ok (.invokevirtual 614, 3) := dk_get daX16_move 172 (r := (402, .invokevirtual 614, 3)) rfl
theorem dX16_move_405 : decode cX16_move 405 = .ok (.goto 199, 3) := dk_get daX16_move 173 (r := (405, .goto 199, 3)) rfl
theorem dX16_move_408 : decode cX16_move 408 = .ok (.aload_n 0, 1) := dk_get daX16_move 174 (r := (408, .aload_n 0, 1)) rfl
theorem dX16_move_409 : decode cX16_move 409 = .ok (.iconst 3, 1) := dk_get daX16_move 175 (r := (409, .iconst 3, 1)) rfl
theorem dX16_move_410 : decode cX16_move 410 = .ok (.invokevirtual 614, 3) := dk_get daX16_move 176 (r := (410, .invokevirtual 614, 3)) rfl
theorem dX16_move_413 : decode cX16_move 413 = .ok (.aload_n 0, 1) := dk_get daX16_move 177 (r := (413, .aload_n 0, 1)) rfl
theorem dX16_move_414 : decode cX16_move 414 = .ok (.iconst 3, 1) := dk_get daX16_move 178 (r := (414, .iconst 3, 1)) rfl
theorem dX16_move_415 : decode cX16_move 415 = .ok (.invokevirtual 614, 3) := dk_get daX16_move 179 (r := (415, .invokevirtual 614, 3)) rfl
theorem dX16_move_418 : decode cX16_move 418 = .ok (.goto 186, 3) := dk_get daX16_move 180 (r := (418, .goto 186, 3)) rfl
theorem dX16_move_421 : decode cX16_move 421 = .ok (.aload_n 0, 1) := dk_get daX16_move 181 (r := (421, .aload_n 0, 1)) rfl
theorem dX16_move_422 : decode cX16_move 422 = .ok (.iconst 0, 1) := dk_get daX16_move 182 (r := (422, .iconst 0, 1)) rfl
theorem dX16_move_423 : decode cX16_move 423 = .ok (.invokevirtual 585, 3) := dk_get daX16_move 183 (r := (423, .invokevirtual 585, 3)) rfl
theorem dX16_move_426 : decode cX16_move 426 = .ok (.ifCond .eq 178, 3) := dk_get daX16_move 184 (r := (426, .ifCond .eq 178, 3)) rfl
theorem dX16_move_429 : decode cX16_move 429 = .ok (.aload_n 0, 1) := dk_get daX16_move 185 (r := (429, .aload_n 0, 1)) rfl
theorem dX16_move_430 : decode cX16_move 430 = .ok (.iconst 0, 1) := dk_get daX16_move 186 (r := (430, .iconst 0, 1)) rfl
theorem dX16_move_431 : decode cX16_move 431 = .ok (.invokevirtual 612, 3) := dk_get daX16_move 187 (r := (431, .invokevirtual 612, 3)) rfl
theorem dX16_move_434 : decode cX16_move 434 = .ok (.goto 170, 3) := dk_get daX16_move 188 (r := (434, .goto 170, 3)) rfl
theorem dX16_move_437 : decode cX16_move 437 = .ok (.aload_n 0, 1) := dk_get daX16_move 189 (r := (437, .aload_n 0, 1)) rfl
theorem dX16_move_438 : decode cX16_move 438 = .ok (.aload_n 0, 1) := dk_get daX16_move 190 (r := (438, .aload_n 0, 1)) rfl
theorem dX16_move_439 : decode cX16_move 439 = .ok (.getfield 521, 3) := dk_get daX16_move 191 (r := (439, .getfield 521, 3)) rfl
theorem dX16_move_442 : decode cX16_move 442 = .ok (.i2l, 1) := dk_get daX16_move 192 (r := (442, .i2l, 1)) rfl
theorem dX16_move_443 : decode cX16_move 443 = .ok (.invokevirtual 545, 3) := dk_get daX16_move 193 (r := (443, .invokevirtual 545, 3)) rfl
theorem dX16_move_446 : decode cX16_move 446 = .ok (.goto 158, 3) := dk_get daX16_move 194 (r := (446, .goto 158, 3)) rfl
theorem dX16_move_449 : decode cX16_move 449 = .ok (.aload_n 0, 1) := dk_get daX16_move 195 (r := (449, .aload_n 0, 1)) rfl
theorem dX16_move_450 : decode cX16_move 450 = .ok (.dup, 1) := dk_get daX16_move 196 (r := (450, .dup, 1)) rfl
theorem dX16_move_451 : decode cX16_move 451 = .ok (.getfield 521, 3) := dk_get daX16_move 197 (r := (451, .getfield 521, 3)) rfl
theorem dX16_move_454 : decode cX16_move 454 = .ok (.iconst 1, 1) := dk_get daX16_move 198 (r := (454, .iconst 1, 1)) rfl
theorem dX16_move_455 : decode cX16_move 455 = .ok (.isub, 1) := dk_get daX16_move 199 (r := (455, .isub, 1)) rfl
theorem dX16_move_456 : decode cX16_move 456 = .ok (.putfield 521, 3) := dk_get daX16_move 200 (r := (456, .putfield 521, 3)) rfl
theorem dX16_move_459 : decode cX16_move 459 = .ok (.goto 145, 3) := dk_get daX16_move 201 (r := (459, .goto 145, 3)) rfl
theorem dX16_move_462 : decode cX16_move 462 = .ok (.aload_n 0, 1) := dk_get daX16_move 202 (r := (462, .aload_n 0, 1)) rfl
theorem dX16_move_463 : decode cX16_move 463 = .ok (.iconst 0, 1) := dk_get daX16_move 203 (r := (463, .iconst 0, 1)) rfl
theorem dX16_move_464 : decode cX16_move 464 = .ok (.invokevirtual 612, 3) := dk_get daX16_move 204 (r := (464, .invokevirtual 612, 3)) rfl
theorem dX16_move_467 : decode cX16_move 467 = .ok (.goto 137, 3) := dk_get daX16_move 205 (r := (467, .goto 137, 3)) rfl
theorem dX16_move_470 : decode cX16_move 470 = .ok (.aload_n 0, 1) := dk_get daX16_move 206 (r := (470, .aload_n 0, 1)) rfl
theorem dX16_move_471 : decode cX16_move 471 = .ok (.iconst 1, 1) := dk_get daX16_move 207 (r := (471, .iconst 1, 1)) rfl
theorem dX16_move_472 : decode cX16_move 472 = .ok (.invokevirtual 614, 3) := dk_get daX16_move 208 (r := (472, .invokevirtual 614, 3)) rfl
theorem dX16_move_475 : decode cX16_move 475 = .ok (.aload_n 0, 1) := dk_get daX16_move 209 (r := (475, .aload_n 0, 1)) rfl
theorem dX16_move_476 : decode cX16_move 476 = .ok (.dup, 1) := dk_get daX16_move 210 (r := (476, .dup, 1)) rfl
theorem dX16_move_477 : decode cX16_move 477 = .ok (.getfield 521, 3) := dk_get daX16_move 211 (r := (477, .getfield 521, 3)) rfl
theorem dX16_move_480 : decode cX16_move 480 = .ok (.iconst 1, 1) := dk_get daX16_move 212 (r := (480, .iconst 1, 1)) rfl
theorem dX16_move_481 : decode cX16_move 481 = .ok (.isub, 1) := dk_get daX16_move 213 (r := (481, .isub, 1)) rfl
theorem dX16_move_482 : decode cX16_move 482 = .ok (.putfield 521, 3) := dk_get daX16_move 214 (r := (482, .putfield 521, 3)) rfl
theorem dX16_move_485 : decode cX16_move 485 = .ok (.goto 119, 3) := dk_get daX16_move 215 (r := (485, .goto 119, 3)) rfl
theorem dX16_move_488 : decode cX16_move 488 = .ok (.aload_n 0, 1) := dk_get daX16_move 216 (r := (488, .aload_n 0, 1)) rfl
theorem dX16_move_489 : decode cX16_move 489 = .ok (.iconst 1, 1) := dk_get daX16_move 217 (r := (489, .iconst 1, 1)) rfl
theorem dX16_move_490 : decode cX16_move 490 = .ok (.invokevirtual 612, 3) := dk_get daX16_move 218 (r := (490, .invokevirtual 612, 3)) rfl
theorem dX16_move_493 : decode cX16_move 493 = .ok (.goto 111, 3) := dk_get daX16_move 219 (r := (493, .goto 111, 3)) rfl
theorem dX16_move_496 : decode cX16_move 496 = .ok (.aload_n 0, 1) := dk_get daX16_move 220 (r := (496, .aload_n 0, 1)) rfl
theorem dX16_move_497 : decode cX16_move 497 = .ok (.iconst 0, 1) := dk_get daX16_move 221 (r := (497, .iconst 0, 1)) rfl
theorem dX16_move_498 : decode cX16_move 498 = .ok (.iconst 4, 1) := dk_get daX16_move 222 (r := (498, .iconst 4, 1)) rfl
theorem dX16_move_499 : decode cX16_move 499 = .ok (.invokevirtual 617, 3) := dk_get daX16_move 223 (r := (499, .invokevirtual 617, 3)) rfl
theorem dX16_move_502 : decode cX16_move 502 = .ok (.lstore 6, 2) := dk_get daX16_move 224 (r := (502, .lstore 6, 2)) rfl
theorem dX16_move_504 : decode cX16_move 504 = .ok (.aload_n 0, 1) := dk_get daX16_move 225 (r := (504, .aload_n 0, 1)) rfl
theorem dX16_move_505 : decode cX16_move 505 = .ok (.dup, 1) := dk_get daX16_move 226 (r := (505, .dup, 1)) rfl
theorem dX16_move_506 : decode cX16_move 506 = .ok (.getfield 521, 3) := dk_get daX16_move 227 (r := (506, .getfield 521, 3)) rfl
theorem dX16_move_509 : decode cX16_move 509 = .ok (.iconst 1, 1) := dk_get daX16_move 228 (r := (509, .iconst 1, 1)) rfl
theorem dX16_move_510 : decode cX16_move 510 = .ok (.isub, 1) := dk_get daX16_move 229 (r := (510, .isub, 1)) rfl
theorem dX16_move_511 : decode cX16_move 511 = .ok (.putfield 521, 3) := dk_get daX16_move 230 (r := (511, .putfield 521, 3)) rfl
theorem dX16_move_514 : decode cX16_move 514 = .ok (.aload_n 0, 1) := dk_get daX16_move 231 (r := (514, .aload_n 0, 1)) rfl
theorem dX16_move_515 : decode cX16_move 515 = .ok (.getfield 524, 3) := dk_get daX16_move 232 (r := (515, .getfield 524, 3)) rfl
theorem dX16_move_518 : decode cX16_move 518 = .ok (.ifCond .ne 21, 3) := dk_get daX16_move 233 (r := (518, .ifCond .ne 21, 3)) rfl
theorem dX16_move_521 : decode cX16_move 521 = .ok (.lload 6, 2) := dk_get daX16_move 234 (r := (521, .lload 6, 2)) rfl
theorem dX16_move_523 : decode cX16_move 523 = .ok (.lconst 0, 1) := dk_get daX16_move 235 (r := (523, .lconst 0, 1)) rfl
theorem dX16_move_524 : decode cX16_move 524 = .ok (.lcmp, 1) := dk_get daX16_move 236 (r := (524, .lcmp, 1)) rfl
theorem dX16_move_525 : decode cX16_move 525 = .ok (.ifCond .lt 14, 3) := dk_get daX16_move 237 (r := (525, .ifCond .lt 14, 3)) rfl
theorem dX16_move_528 : decode cX16_move 528 = .ok (.lload 6, 2) := dk_get daX16_move 238 (r := (528, .lload 6, 2)) rfl
theorem dX16_move_530 : decode cX16_move 530 = .ok (.aload_n 0, 1) := dk_get daX16_move 239 (r := (530, .aload_n 0, 1)) rfl
theorem dX16_move_531 : decode cX16_move 531 = .ok (.getfield 521, 3) := dk_get daX16_move 240 (r := (531, .getfield 521, 3)) rfl
theorem dX16_move_534 : decode cX16_move 534 = .ok (.i2l, 1) := dk_get daX16_move 241 (r := (534, .i2l, 1)) rfl
theorem dX16_move_535 : decode cX16_move 535 = .ok (.lcmp, 1) := dk_get daX16_move 242 (r := (535, .lcmp, 1)) rfl
theorem dX16_move_536 : decode cX16_move 536 = .ok (.ifCond .lt 11, 3) := dk_get daX16_move 243 (r := (536, .ifCond .lt 11, 3)) rfl
theorem dX16_move_539 : decode cX16_move 539 = .ok (.aload_n 0, 1) := dk_get daX16_move 244 (r := (539, .aload_n 0, 1)) rfl
theorem dX16_move_540 : decode cX16_move 540 = .ok (.iconst 1, 1) := dk_get daX16_move 245 (r := (540, .iconst 1, 1)) rfl
theorem dX16_move_541 : decode cX16_move 541 = .ok (.putfield 524, 3) := dk_get daX16_move 246 (r := (541, .putfield 524, 3)) rfl
theorem dX16_move_544 : decode cX16_move 544 = .ok (.goto 60, 3) := dk_get daX16_move 247 (r := (544, .goto 60, 3)) rfl
theorem dX16_move_547 : decode cX16_move 547 = .ok (.iload_n 1, 1) := dk_get daX16_move 248 (r := (547, .iload_n 1, 1)) rfl
theorem dX16_move_548 : decode cX16_move 548 = .ok (.bipush 121, 2) := dk_get daX16_move 249 (r := (548, .bipush 121, 2)) rfl
theorem dX16_move_550 : decode cX16_move 550 = .ok (.if_icmp .ne 13, 3) := dk_get daX16_move 250 (r := (550, .if_icmp .ne 13, 3)) rfl
theorem dX16_move_553 : decode cX16_move 553 = .ok (.aload_n 0, 1) := dk_get daX16_move 251 (r := (553, .aload_n 0, 1)) rfl
theorem dX16_move_554 : decode cX16_move 554 = .ok (.lload 6, 2) := dk_get daX16_move 252 (r := (554, .lload 6, 2)) rfl
theorem dX16_move_556 : decode cX16_move 556 = .ok (.l2i, 1) := dk_get daX16_move 253 (r := (556, .l2i, 1)) rfl
theorem dX16_move_557 : decode cX16_move 557 = .ok (.invokevirtual 612, 3) := dk_get daX16_move 254 (r := (557, .invokevirtual 612, 3)) rfl
theorem dX16_move_560 : decode cX16_move 560 = .ok (.goto 44, 3) := dk_get daX16_move 255 (r := (560, .goto 44, 3)) rfl
theorem dX16_move_563 : decode cX16_move 563 = .ok (.aload_n 0, 1) := dk_get daX16_move 256 (r := (563, .aload_n 0, 1)) rfl
theorem dX16_move_564 : decode cX16_move 564 = .ok (.lload 6, 2) := dk_get daX16_move 257 (r := (564, .lload 6, 2)) rfl
theorem dX16_move_566 : decode cX16_move 566 = .ok (.l2i, 1) := dk_get daX16_move 258 (r := (566, .l2i, 1)) rfl
theorem dX16_move_567 : decode cX16_move 567 = .ok (.invokevirtual 614, 3) := dk_get daX16_move 259 (r := (567, .invokevirtual 614, 3)) rfl
theorem dX16_move_570 : decode cX16_move 570 = .ok (.goto 34, 3) := dk_get daX16_move 260 (r := (570, .goto 34, 3)) rfl
theorem dX16_move_573 : decode cX16_move 573 = .ok (.aload_n 0, 1) := dk_get daX16_move 261 (r := (573, .aload_n 0, 1)) rfl
theorem dX16_move_574 : decode cX16_move 574 = .ok (.iconst 2, 1) := dk_get daX16_move 262 (r := (574, .iconst 2, 1)) rfl
theorem dX16_move_575 : decode cX16_move 575 = .ok (.invokevirtual 614, 3) := dk_get daX16_move 263 (r := (575, .invokevirtual 614, 3)) rfl
theorem dX16_move_578 : decode cX16_move 578 = .ok (.goto 26, 3) := dk_get daX16_move 264 (r := (578, .goto 26, 3)) rfl
theorem dX16_move_581 : decode cX16_move 581 = .ok (.aload_n 0, 1) := dk_get daX16_move 265 (r := (581, .aload_n 0, 1)) rfl
theorem dX16_move_582 : decode cX16_move 582 = .ok (.iconst 1, 1) := dk_get daX16_move 266 (r := (582, .iconst 1, 1)) rfl
theorem dX16_move_583 : decode cX16_move 583 = .ok (.invokevirtual 614, 3) := dk_get daX16_move 267 (r := (583, .invokevirtual 614, 3)) rfl
theorem dX16_move_586 : decode cX16_move 586 = .ok (.goto 18, 3) := dk_get daX16_move 268 (r := (586, .goto 18, 3)) rfl
theorem dX16_move_589 : decode cX16_move 589 = .ok (.aload_n 0, 1) := dk_get daX16_move 269 (r := (589, .aload_n 0, 1)) rfl
theorem dX16_move_590 : decode cX16_move 590 = .ok (.iconst 0, 1) := dk_get daX16_move 270 (r := (590, .iconst 0, 1)) rfl
theorem dX16_move_591 : decode cX16_move 591 = .ok (.invokevirtual 612, 3) := dk_get daX16_move 271 (r := (591, .invokevirtual 612, 3)) rfl
theorem dX16_move_594 : decode cX16_move 594 = .ok (.aload_n 0, 1) := dk_get daX16_move 272 (r := (594, .aload_n 0, 1)) rfl
theorem dX16_move_595 : decode cX16_move 595 = .ok (.iconst 2, 1) := dk_get daX16_move 273 (r := (595, .iconst 2, 1)) rfl
theorem dX16_move_596 : decode cX16_move 596 = .ok (.invokevirtual 614, 3) := dk_get daX16_move 274 (r := (596, .invokevirtual 614, 3)) rfl
theorem dX16_move_599 : decode cX16_move 599 = .ok (.aload_n 0, 1) := dk_get daX16_move 275 (r := (599, .aload_n 0, 1)) rfl
theorem dX16_move_600 : decode cX16_move 600 = .ok (.iconst 2, 1) := dk_get daX16_move 276 (r := (600, .iconst 2, 1)) rfl
theorem dX16_move_601 : decode cX16_move 601 = .ok (.invokevirtual 614, 3) := dk_get daX16_move 277 (r := (601, .invokevirtual 614, 3)) rfl
theorem dX16_move_604 : decode cX16_move 604 = .ok (.return_, 1) := dk_get daX16_move 278 (r := (604, .return_, 1)) rfl
abbrev mX16_work_ : ks_M := (RX16, cX16_work_, 3, none, "work")
def drX16_work_ : List (Nat × Instr × Nat) := [(0, .iload_n 1, 1), (1, .sipush 139, 3), (4, .if_icmp .lt 16, 3), (7, .iload_n 1, 1), (8, .sipush 165, 3), (11, .if_icmp .gt 9, 3), (14, .aload_n 0, 1), (15, .iload_n 1, 1), (16, .invokevirtual 621, 3), (19, .return_, 1), (20, .iload_n 1, 1), (21, .tableswitch 126 166 177 #[63, 126, 63, 63, 63, 79, 87, 87, 103, 103, 126, 111], 63), (84, .aload_n 0, 1), (85, .iconst 1, 1), (86, .invokevirtual 582, 3), (89, .ifCond .eq 86, 3), (92, .aload_n 0, 1), (93, .iload_n 1, 1), (94, .invokevirtual 624, 3), (97, .goto 78, 3), (100, .aload_n 0, 1), (101, .iload_n 2, 1), (102, .putfield 551, 3), (105, .goto 70, 3), (108, .aload_n 0, 1), (109, .iconst 2, 1), (110, .invokevirtual 582, 3), (113, .ifCond .eq 62, 3), (116, .aload_n 0, 1), (117, .iload_n 1, 1), (118, .invokevirtual 627, 3), (121, .goto 54, 3), (124, .aload_n 0, 1), (125, .iload_n 1, 1), (126, .invokevirtual 630, 3), (129, .goto 46, 3), (132, .aload_n 0, 1), (133, .iconst 1, 1), (134, .invokevirtual 582, 3), (137, .ifCond .eq 38, 3), (140, .aload_n 0, 1), (141, .invokevirtual 633, 3), (144, .goto 31, 3), (147, .aload_n 0, 1), (148, .dup, 1), (149, .getfield 524, 3), (152, .iload_n 1, 1), (153, .sipush 167, 3), (156, .if_icmp .eq 10, 3), (159, .iload_n 1, 1), (160, .sipush 185, 3), (163, .if_icmp .le 7, 3), (166, .iconst 1, 1), (167, .goto 4, 3), (170, .iconst 0, 1), (171, .ior, 1), (172, .putfield 524, 3), (175, .return_, 1)]
set_option maxRecDepth 100000 in
theorem daX16_work_ : dk_all cX16_work_ drX16_work_ = true := by decide +kernel
theorem dX16_work__0 : decode cX16_work_ 0 = .ok (.iload_n 1, 1) := dk_get daX16_work_ 0 (r := (0, .iload_n 1, 1)) rfl
theorem dX16_work__1 : decode cX16_work_ 1 = .ok (.sipush 139, 3) := dk_get daX16_work_ 1 (r := (1, .sipush 139, 3)) rfl
theorem dX16_work__4 : decode cX16_work_ 4 = .ok (.if_icmp .lt 16, 3) := dk_get daX16_work_ 2 (r := (4, .if_icmp .lt 16, 3)) rfl
theorem dX16_work__7 : decode cX16_work_ 7 = .ok (.iload_n 1, 1) := dk_get daX16_work_ 3 (r := (7, .iload_n 1, 1)) rfl
theorem dX16_work__8 : decode cX16_work_ 8 = .ok (.sipush 165, 3) := dk_get daX16_work_ 4 (r := (8, .sipush 165, 3)) rfl
theorem dX16_work__11 : decode cX16_work_ 11 = .ok (.if_icmp .gt 9, 3) := dk_get daX16_work_ 5 (r := (11, .if_icmp .gt 9, 3)) rfl
theorem dX16_work__14 : decode cX16_work_ 14 = .ok (.aload_n 0, 1) := dk_get daX16_work_ 6 (r := (14, .aload_n 0, 1)) rfl
theorem dX16_work__15 : decode cX16_work_ 15 = .ok (.iload_n 1, 1) := dk_get daX16_work_ 7 (r := (15, .iload_n 1, 1)) rfl
theorem dX16_work__16 : decode cX16_work_ 16 = .ok (.invokevirtual 621, 3) := dk_get daX16_work_ 8 (r := (16, .invokevirtual 621, 3)) rfl
theorem dX16_work__19 : decode cX16_work_ 19 = .ok (.return_, 1) := dk_get daX16_work_ 9 (r := (19, .return_, 1)) rfl
theorem dX16_work__20 : decode cX16_work_ 20 = .ok (.iload_n 1, 1) := dk_get daX16_work_ 10 (r := (20, .iload_n 1, 1)) rfl
theorem dX16_work__21 : decode cX16_work_ 21 = .ok (.tableswitch 126 166 177 #[63, 126, 63, 63, 63, 79, 87, 87, 103, 103, 126, 111], 63) := dk_get daX16_work_ 11 (r := (21, .tableswitch 126 166 177 #[63, 126, 63, 63, 63, 79, 87, 87, 103, 103, 126, 111], 63)) rfl
theorem dX16_work__84 : decode cX16_work_ 84 = .ok (.aload_n 0, 1) := dk_get daX16_work_ 12 (r := (84, .aload_n 0, 1)) rfl
theorem dX16_work__85 : decode cX16_work_ 85 = .ok (.iconst 1, 1) := dk_get daX16_work_ 13 (r := (85, .iconst 1, 1)) rfl
theorem dX16_work__86 : decode cX16_work_ 86 = .ok (.invokevirtual 582, 3) := dk_get daX16_work_ 14 (r := (86, .invokevirtual 582, 3)) rfl
theorem dX16_work__89 : decode cX16_work_ 89 = .ok (.ifCond .eq 86, 3) := dk_get daX16_work_ 15 (r := (89, .ifCond .eq 86, 3)) rfl
theorem dX16_work__92 : decode cX16_work_ 92 = .ok (.aload_n 0, 1) := dk_get daX16_work_ 16 (r := (92, .aload_n 0, 1)) rfl
theorem dX16_work__93 : decode cX16_work_ 93 = .ok (.iload_n 1, 1) := dk_get daX16_work_ 17 (r := (93, .iload_n 1, 1)) rfl
theorem dX16_work__94 : decode cX16_work_ 94 = .ok (.invokevirtual 624, 3) := dk_get daX16_work_ 18 (r := (94, .invokevirtual 624, 3)) rfl
theorem dX16_work__97 : decode cX16_work_ 97 = .ok (.goto 78, 3) := dk_get daX16_work_ 19 (r := (97, .goto 78, 3)) rfl
theorem dX16_work__100 : decode cX16_work_ 100 = .ok (.aload_n 0, 1) := dk_get daX16_work_ 20 (r := (100, .aload_n 0, 1)) rfl
theorem dX16_work__101 : decode cX16_work_ 101 = .ok (.iload_n 2, 1) := dk_get daX16_work_ 21 (r := (101, .iload_n 2, 1)) rfl
theorem dX16_work__102 : decode cX16_work_ 102 = .ok (.putfield 551, 3) := dk_get daX16_work_ 22 (r := (102, .putfield 551, 3)) rfl
theorem dX16_work__105 : decode cX16_work_ 105 = .ok (.goto 70, 3) := dk_get daX16_work_ 23 (r := (105, .goto 70, 3)) rfl
theorem dX16_work__108 : decode cX16_work_ 108 = .ok (.aload_n 0, 1) := dk_get daX16_work_ 24 (r := (108, .aload_n 0, 1)) rfl
theorem dX16_work__109 : decode cX16_work_ 109 = .ok (.iconst 2, 1) := dk_get daX16_work_ 25 (r := (109, .iconst 2, 1)) rfl
theorem dX16_work__110 : decode cX16_work_ 110 = .ok (.invokevirtual 582, 3) := dk_get daX16_work_ 26 (r := (110, .invokevirtual 582, 3)) rfl
theorem dX16_work__113 : decode cX16_work_ 113 = .ok (.ifCond .eq 62, 3) := dk_get daX16_work_ 27 (r := (113, .ifCond .eq 62, 3)) rfl
theorem dX16_work__116 : decode cX16_work_ 116 = .ok (.aload_n 0, 1) := dk_get daX16_work_ 28 (r := (116, .aload_n 0, 1)) rfl
theorem dX16_work__117 : decode cX16_work_ 117 = .ok (.iload_n 1, 1) := dk_get daX16_work_ 29 (r := (117, .iload_n 1, 1)) rfl
theorem dX16_work__118 : decode cX16_work_ 118 = .ok (.invokevirtual 627, 3) := dk_get daX16_work_ 30 (r := (118, .invokevirtual 627, 3)) rfl
theorem dX16_work__121 : decode cX16_work_ 121 = .ok (.goto 54, 3) := dk_get daX16_work_ 31 (r := (121, .goto 54, 3)) rfl
theorem dX16_work__124 : decode cX16_work_ 124 = .ok (.aload_n 0, 1) := dk_get daX16_work_ 32 (r := (124, .aload_n 0, 1)) rfl
theorem dX16_work__125 : decode cX16_work_ 125 = .ok (.iload_n 1, 1) := dk_get daX16_work_ 33 (r := (125, .iload_n 1, 1)) rfl
theorem dX16_work__126 : decode cX16_work_ 126 = .ok (.invokevirtual 630, 3) := dk_get daX16_work_ 34 (r := (126, .invokevirtual 630, 3)) rfl
theorem dX16_work__129 : decode cX16_work_ 129 = .ok (.goto 46, 3) := dk_get daX16_work_ 35 (r := (129, .goto 46, 3)) rfl
theorem dX16_work__132 : decode cX16_work_ 132 = .ok (.aload_n 0, 1) := dk_get daX16_work_ 36 (r := (132, .aload_n 0, 1)) rfl
theorem dX16_work__133 : decode cX16_work_ 133 = .ok (.iconst 1, 1) := dk_get daX16_work_ 37 (r := (133, .iconst 1, 1)) rfl
theorem dX16_work__134 : decode cX16_work_ 134 = .ok (.invokevirtual 582, 3) := dk_get daX16_work_ 38 (r := (134, .invokevirtual 582, 3)) rfl
theorem dX16_work__137 : decode cX16_work_ 137 = .ok (.ifCond .eq 38, 3) := dk_get daX16_work_ 39 (r := (137, .ifCond .eq 38, 3)) rfl
theorem dX16_work__140 : decode cX16_work_ 140 = .ok (.aload_n 0, 1) := dk_get daX16_work_ 40 (r := (140, .aload_n 0, 1)) rfl
theorem dX16_work__141 : decode cX16_work_ 141 = .ok (.invokevirtual 633, 3) := dk_get daX16_work_ 41 (r := (141, .invokevirtual 633, 3)) rfl
theorem dX16_work__144 : decode cX16_work_ 144 = .ok (.goto 31, 3) := dk_get daX16_work_ 42 (r := (144, .goto 31, 3)) rfl
theorem dX16_work__147 : decode cX16_work_ 147 = .ok (.aload_n 0, 1) := dk_get daX16_work_ 43 (r := (147, .aload_n 0, 1)) rfl
theorem dX16_work__148 : decode cX16_work_ 148 = .ok (.dup, 1) := dk_get daX16_work_ 44 (r := (148, .dup, 1)) rfl
theorem dX16_work__149 : decode cX16_work_ 149 = .ok (.getfield 524, 3) := dk_get daX16_work_ 45 (r := (149, .getfield 524, 3)) rfl
theorem dX16_work__152 : decode cX16_work_ 152 = .ok (.iload_n 1, 1) := dk_get daX16_work_ 46 (r := (152, .iload_n 1, 1)) rfl
theorem dX16_work__153 : decode cX16_work_ 153 = .ok (.sipush 167, 3) := dk_get daX16_work_ 47 (r := (153, .sipush 167, 3)) rfl
theorem dX16_work__156 : decode cX16_work_ 156 = .ok (.if_icmp .eq 10, 3) := dk_get daX16_work_ 48 (r := (156, .if_icmp .eq 10, 3)) rfl
theorem dX16_work__159 : decode cX16_work_ 159 = .ok (.iload_n 1, 1) := dk_get daX16_work_ 49 (r := (159, .iload_n 1, 1)) rfl
theorem dX16_work__160 : decode cX16_work_ 160 = .ok (.sipush 185, 3) := dk_get daX16_work_ 50 (r := (160, .sipush 185, 3)) rfl
theorem dX16_work__163 : decode cX16_work_ 163 = .ok (.if_icmp .le 7, 3) := dk_get daX16_work_ 51 (r := (163, .if_icmp .le 7, 3)) rfl
theorem dX16_work__166 : decode cX16_work_ 166 = .ok (.iconst 1, 1) := dk_get daX16_work_ 52 (r := (166, .iconst 1, 1)) rfl
theorem dX16_work__167 : decode cX16_work_ 167 = .ok (.goto 4, 3) := dk_get daX16_work_ 53 (r := (167, .goto 4, 3)) rfl
theorem dX16_work__170 : decode cX16_work_ 170 = .ok (.iconst 0, 1) := dk_get daX16_work_ 54 (r := (170, .iconst 0, 1)) rfl
theorem dX16_work__171 : decode cX16_work_ 171 = .ok (.ior, 1) := dk_get daX16_work_ 55 (r := (171, .ior, 1)) rfl
theorem dX16_work__172 : decode cX16_work_ 172 = .ok (.putfield 524, 3) := dk_get daX16_work_ 56 (r := (172, .putfield 524, 3)) rfl
theorem dX16_work__175 : decode cX16_work_ 175 = .ok (.return_, 1) := dk_get daX16_work_ 57 (r := (175, .return_, 1)) rfl
abbrev mX16_reckon : ks_M := (RX16, cX16_reckon, 9, none, "reckon")
def drX16_reckon : List (Nat × Instr × Nat) := [(0, .iload_n 1, 1), (1, .sipush 165, 3), (4, .if_icmp .ne 7, 3), (7, .iconst 3, 1), (8, .goto 15, 3), (11, .iload_n 1, 1), (12, .sipush 147, 3), (15, .if_icmp .lt 7, 3), (18, .iconst 2, 1), (19, .goto 4, 3), (22, .iconst 1, 1), (23, .istore_n 2, 1), (24, .aload_n 0, 1), (25, .iload_n 2, 1), (26, .invokevirtual 582, 3), (29, .ifCond .ne 4, 3), (32, .return_, 1), (33, .aload_n 0, 1), (34, .iconst 0, 1), (35, .iconst 4, 1), (36, .invokevirtual 617, 3), (39, .lstore_n 3, 1), (40, .iload_n 2, 1), (41, .iconst 1, 1), (42, .if_icmp .le 12, 3), (45, .aload_n 0, 1), (46, .iconst 1, 1), (47, .iconst 4, 1), (48, .invokevirtual 617, 3), (51, .goto 4, 3), (54, .lconst 0, 1), (55, .lstore 5, 2), (57, .iload_n 2, 1), (58, .iconst 2, 1), (59, .if_icmp .le 12, 3), (62, .aload_n 0, 1), (63, .iconst 2, 1), (64, .iconst 4, 1), (65, .invokevirtual 617, 3), (68, .goto 4, 3), (71, .lconst 0, 1), (72, .lstore 7, 2), (74, .aload_n 0, 1), (75, .getfield 524, 3), (78, .ifCond .eq 4, 3), (81, .return_, 1), (82, .aload_n 0, 1), (83, .dup, 1), (84, .getfield 521, 3), (87, .iload_n 2, 1), (88, .isub, 1), (89, .putfield 521, 3), (92, .iload_n 1, 1), (93, .tableswitch 443 139 164 #[119, 129, 443, 443, 139, 148, 167, 167, 205, 216, 443, 443, 443, 443, 443, 227, 252, 277, 277, 308, 327, 346, 365, 384, 403, 423], 119), (212, .aload_n 0, 1), (213, .lload_n 3, 1), (214, .lconst 1, 1), (215, .ladd, 1), (216, .invokevirtual 545, 3), (219, .goto 341, 3), (222, .aload_n 0, 1), (223, .lload_n 3, 1), (224, .lconst 1, 1), (225, .lsub, 1), (226, .invokevirtual 545, 3), (229, .goto 331, 3), (232, .aload_n 0, 1), (233, .lload_n 3, 1), (234, .lneg, 1), (235, .invokevirtual 545, 3), (238, .goto 322, 3), (241, .aload_n 0, 1), (242, .lload_n 3, 1), (243, .lconst 0, 1), (244, .lcmp, 1), (245, .ifCond .ge 8, 3), (248, .lload_n 3, 1), (249, .lneg, 1), (250, .goto 4, 3), (253, .lload_n 3, 1), (254, .invokevirtual 545, 3), (257, .goto 303, 3), (260, .aload_n 0, 1), (261, .lload_n 3, 1), (262, .lconst 0, 1), (263, .lcmp, 1), (264, .ifCond .ne 7, 3), (267, .iconst 1, 1), (268, .goto 4, 3), (271, .iconst 0, 1), (272, .iload_n 1, 1), (273, .sipush 145, 3), (276, .if_icmp .ne 7, 3), (279, .iconst 1, 1), (280, .goto 4, 3), (283, .iconst 0, 1), (284, .if_icmp .ne 7, 3), (287, .iconst 1, 1), (288, .goto 4, 3), (291, .iconst 0, 1), (292, .invokevirtual 599, 3), (295, .goto 265, 3), (298, .aload_n 0, 1), (299, .lload 5, 2), (301, .lload_n 3, 1), (302, .ladd, 1), (303, .invokevirtual 545, 3), (306, .goto 254, 3), (309, .aload_n 0, 1), (310, .lload 5, 2), (312, .lload_n 3, 1), (313, .lsub, 1), (314, .invokevirtual 545, 3), (317, .goto 243, 3), (320, .aload_n 0, 1), (321, .lload 5, 2), (323, .lconst 0, 1), (324, .lcmp, 1), (325, .ifCond .eq 13, 3), (328, .lload_n 3, 1), (329, .lconst 0, 1), (330, .lcmp, 1), (331, .ifCond .eq 7, 3), (334, .iconst 1, 1), (335, .goto 4, 3), (338, .iconst 0, 1), (339, .invokevirtual 599, 3), (342, .goto 218, 3), (345, .aload_n 0, 1), (346, .lload 5, 2), (348, .lconst 0, 1), (349, .lcmp, 1), (350, .ifCond .ne 9, 3), (353, .lload_n 3, 1), (354, .lconst 0, 1), (355, .lcmp, 1), (356, .ifCond .eq 7, 3), (359, .iconst 1, 1), (360, .goto 4, 3), (363, .iconst 0, 1), (364, .invokevirtual 599, 3), (367, .goto 193, 3), (370, .aload_n 0, 1), (371, .lload 5, 2), (373, .lload_n 3, 1), (374, .lcmp, 1), (375, .ifCond .ne 7, 3), (378, .iconst 1, 1), (379, .goto 4, 3), (382, .iconst 0, 1), (383, .iload_n 1, 1), (384, .sipush 157, 3), (387, .if_icmp .ne 7, 3), (390, .iconst 1, 1), (391, .goto 4, 3), (394, .iconst 0, 1), (395, .invokevirtual 595, 3), (398, .goto 162, 3), (401, .aload_n 0, 1), (402, .lload 5, 2), (404, .lload_n 3, 1), (405, .lcmp, 1), (406, .ifCond .eq 7, 3), (409, .iconst 1, 1), (410, .goto 4, 3), (413, .iconst 0, 1), (414, .invokevirtual 599, 3), (417, .goto 143, 3), (420, .aload_n 0, 1), (421, .lload 5, 2), (423, .lload_n 3, 1), (424, .lcmp, 1), (425, .ifCond .ge 7, 3), (428, .iconst 1, 1), (429, .goto 4, 3), (432, .iconst 0, 1), (433, .invokevirtual 599, 3), (436, .goto 124, 3), (439, .aload_n 0, 1), (440, .lload 5, 2), (442, .lload_n 3, 1), (443, .lcmp, 1), (444, .ifCond .le 7, 3), (447, .iconst 1, 1), (448, .goto 4, 3), (451, .iconst 0, 1), (452, .invokevirtual 599, 3), (455, .goto 105, 3), (458, .aload_n 0, 1), (459, .lload 5, 2), (461, .lload_n 3, 1), (462, .lcmp, 1), (463, .ifCond .gt 7, 3), (466, .iconst 1, 1), (467, .goto 4, 3), (470, .iconst 0, 1), (471, .invokevirtual 599, 3), (474, .goto 86, 3), (477, .aload_n 0, 1), (478, .lload 5, 2), (480, .lload_n 3, 1), (481, .lcmp, 1), (482, .ifCond .lt 7, 3), (485, .iconst 1, 1), (486, .goto 4, 3), (489, .iconst 0, 1), (490, .invokevirtual 599, 3), (493, .goto 67, 3), (496, .aload_n 0, 1), (497, .lload 5, 2), (499, .lload_n 3, 1), (500, .lcmp, 1), (501, .ifCond .ge 8, 3), (504, .lload 5, 2), (506, .goto 4, 3), (509, .lload_n 3, 1), (510, .invokevirtual 545, 3), (513, .goto 47, 3), (516, .aload_n 0, 1), (517, .lload 5, 2), (519, .lload_n 3, 1), (520, .lcmp, 1), (521, .ifCond .le 8, 3), (524, .lload 5, 2), (526, .goto 4, 3), (529, .lload_n 3, 1), (530, .invokevirtual 545, 3), (533, .goto 27, 3), (536, .aload_n 0, 1), (537, .lload 5, 2), (539, .lload 7, 2), (541, .lcmp, 1), (542, .ifCond .gt 14, 3), (545, .lload 7, 2), (547, .lload_n 3, 1), (548, .lcmp, 1), (549, .ifCond .ge 7, 3), (552, .iconst 1, 1), (553, .goto 4, 3), (556, .iconst 0, 1), (557, .invokevirtual 599, 3), (560, .return_, 1)]
set_option maxRecDepth 100000 in
theorem daX16_reckon : dk_all cX16_reckon drX16_reckon = true := by decide +kernel
theorem dX16_reckon_0 : decode cX16_reckon 0 = .ok (.iload_n 1, 1) := dk_get daX16_reckon 0 (r := (0, .iload_n 1, 1)) rfl
theorem dX16_reckon_1 : decode cX16_reckon 1 = .ok (.sipush 165, 3) := dk_get daX16_reckon 1 (r := (1, .sipush 165, 3)) rfl
theorem dX16_reckon_4 : decode cX16_reckon 4 = .ok (.if_icmp .ne 7, 3) := dk_get daX16_reckon 2 (r := (4, .if_icmp .ne 7, 3)) rfl
theorem dX16_reckon_7 : decode cX16_reckon 7 = .ok (.iconst 3, 1) := dk_get daX16_reckon 3 (r := (7, .iconst 3, 1)) rfl
theorem dX16_reckon_8 : decode cX16_reckon 8 = .ok (.goto 15, 3) := dk_get daX16_reckon 4 (r := (8, .goto 15, 3)) rfl
theorem dX16_reckon_11 : decode cX16_reckon 11 = .ok (.iload_n 1, 1) := dk_get daX16_reckon 5 (r := (11, .iload_n 1, 1)) rfl
theorem dX16_reckon_12 : decode cX16_reckon 12 = .ok (.sipush 147, 3) := dk_get daX16_reckon 6 (r := (12, .sipush 147, 3)) rfl
theorem dX16_reckon_15 : decode cX16_reckon 15 = .ok (.if_icmp .lt 7, 3) := dk_get daX16_reckon 7 (r := (15, .if_icmp .lt 7, 3)) rfl
theorem dX16_reckon_18 : decode cX16_reckon 18 = .ok (.iconst 2, 1) := dk_get daX16_reckon 8 (r := (18, .iconst 2, 1)) rfl
theorem dX16_reckon_19 : decode cX16_reckon 19 = .ok (.goto 4, 3) := dk_get daX16_reckon 9 (r := (19, .goto 4, 3)) rfl
theorem dX16_reckon_22 : decode cX16_reckon 22 = .ok (.iconst 1, 1) := dk_get daX16_reckon 10 (r := (22, .iconst 1, 1)) rfl
theorem dX16_reckon_23 : decode cX16_reckon 23 = .ok (.istore_n 2, 1) := dk_get daX16_reckon 11 (r := (23, .istore_n 2, 1)) rfl
theorem dX16_reckon_24 : decode cX16_reckon 24 = .ok (.aload_n 0, 1) := dk_get daX16_reckon 12 (r := (24, .aload_n 0, 1)) rfl
theorem dX16_reckon_25 : decode cX16_reckon 25 = .ok (.iload_n 2, 1) := dk_get daX16_reckon 13 (r := (25, .iload_n 2, 1)) rfl
theorem dX16_reckon_26 : decode cX16_reckon 26 = .ok (.invokevirtual 582, 3) := dk_get daX16_reckon 14 (r := (26, .invokevirtual 582, 3)) rfl
theorem dX16_reckon_29 : decode cX16_reckon 29 = .ok (.ifCond .ne 4, 3) := dk_get daX16_reckon 15 (r := (29, .ifCond .ne 4, 3)) rfl
theorem dX16_reckon_32 : decode cX16_reckon 32 = .ok (.return_, 1) := dk_get daX16_reckon 16 (r := (32, .return_, 1)) rfl
theorem dX16_reckon_33 : decode cX16_reckon 33 = .ok (.aload_n 0, 1) := dk_get daX16_reckon 17 (r := (33, .aload_n 0, 1)) rfl
theorem dX16_reckon_34 : decode cX16_reckon 34 = .ok (.iconst 0, 1) := dk_get daX16_reckon 18 (r := (34, .iconst 0, 1)) rfl
theorem dX16_reckon_35 : decode cX16_reckon 35 = .ok (.iconst 4, 1) := dk_get daX16_reckon 19 (r := (35, .iconst 4, 1)) rfl
theorem dX16_reckon_36 : decode cX16_reckon 36 = .ok (.invokevirtual 617, 3) := dk_get daX16_reckon 20 (r := (36, .invokevirtual 617, 3)) rfl
theorem dX16_reckon_39 : decode cX16_reckon 39 = .ok (.lstore_n 3, 1) := dk_get daX16_reckon 21 (r := (39, .lstore_n 3, 1)) rfl
theorem dX16_reckon_40 : decode cX16_reckon 40 = .ok (.iload_n 2, 1) := dk_get daX16_reckon 22 (r := (40, .iload_n 2, 1)) rfl
theorem dX16_reckon_41 : decode cX16_reckon 41 = .ok (.iconst 1, 1) := dk_get daX16_reckon 23 (r := (41, .iconst 1, 1)) rfl
theorem dX16_reckon_42 : decode cX16_reckon 42 = .ok (.if_icmp .le 12, 3) := dk_get daX16_reckon 24 (r := (42, .if_icmp .le 12, 3)) rfl
theorem dX16_reckon_45 : decode cX16_reckon 45 = .ok (.aload_n 0, 1) := dk_get daX16_reckon 25 (r := (45, .aload_n 0, 1)) rfl
theorem dX16_reckon_46 : decode cX16_reckon 46 = .ok (.iconst 1, 1) := dk_get daX16_reckon 26 (r := (46, .iconst 1, 1)) rfl
theorem dX16_reckon_47 : decode cX16_reckon 47 = .ok (.iconst 4, 1) := dk_get daX16_reckon 27 (r := (47, .iconst 4, 1)) rfl
theorem dX16_reckon_48 : decode cX16_reckon 48 = .ok (.invokevirtual 617, 3) := dk_get daX16_reckon 28 (r := (48, .invokevirtual 617, 3)) rfl
theorem dX16_reckon_51 : decode cX16_reckon 51 = .ok (.goto 4, 3) := dk_get daX16_reckon 29 (r := (51, .goto 4, 3)) rfl
theorem dX16_reckon_54 : decode cX16_reckon 54 = .ok (.lconst 0, 1) := dk_get daX16_reckon 30 (r := (54, .lconst 0, 1)) rfl
theorem dX16_reckon_55 : decode cX16_reckon 55 = .ok (.lstore 5, 2) := dk_get daX16_reckon 31 (r := (55, .lstore 5, 2)) rfl
theorem dX16_reckon_57 : decode cX16_reckon 57 = .ok (.iload_n 2, 1) := dk_get daX16_reckon 32 (r := (57, .iload_n 2, 1)) rfl
theorem dX16_reckon_58 : decode cX16_reckon 58 = .ok (.iconst 2, 1) := dk_get daX16_reckon 33 (r := (58, .iconst 2, 1)) rfl
theorem dX16_reckon_59 : decode cX16_reckon 59 = .ok (.if_icmp .le 12, 3) := dk_get daX16_reckon 34 (r := (59, .if_icmp .le 12, 3)) rfl
theorem dX16_reckon_62 : decode cX16_reckon 62 = .ok (.aload_n 0, 1) := dk_get daX16_reckon 35 (r := (62, .aload_n 0, 1)) rfl
theorem dX16_reckon_63 : decode cX16_reckon 63 = .ok (.iconst 2, 1) := dk_get daX16_reckon 36 (r := (63, .iconst 2, 1)) rfl
theorem dX16_reckon_64 : decode cX16_reckon 64 = .ok (.iconst 4, 1) := dk_get daX16_reckon 37 (r := (64, .iconst 4, 1)) rfl
theorem dX16_reckon_65 : decode cX16_reckon 65 = .ok (.invokevirtual 617, 3) := dk_get daX16_reckon 38 (r := (65, .invokevirtual 617, 3)) rfl
theorem dX16_reckon_68 : decode cX16_reckon 68 = .ok (.goto 4, 3) := dk_get daX16_reckon 39 (r := (68, .goto 4, 3)) rfl
theorem dX16_reckon_71 : decode cX16_reckon 71 = .ok (.lconst 0, 1) := dk_get daX16_reckon 40 (r := (71, .lconst 0, 1)) rfl
theorem dX16_reckon_72 : decode cX16_reckon 72 = .ok (.lstore 7, 2) := dk_get daX16_reckon 41 (r := (72, .lstore 7, 2)) rfl
theorem dX16_reckon_74 : decode cX16_reckon 74 = .ok (.aload_n 0, 1) := dk_get daX16_reckon 42 (r := (74, .aload_n 0, 1)) rfl
theorem dX16_reckon_75 : decode cX16_reckon 75 = .ok (.getfield 524, 3) := dk_get daX16_reckon 43 (r := (75, .getfield 524, 3)) rfl
theorem dX16_reckon_78 : decode cX16_reckon 78 = .ok (.ifCond .eq 4, 3) := dk_get daX16_reckon 44 (r := (78, .ifCond .eq 4, 3)) rfl
theorem dX16_reckon_81 : decode cX16_reckon 81 = .ok (.return_, 1) := dk_get daX16_reckon 45 (r := (81, .return_, 1)) rfl
theorem dX16_reckon_82 : decode cX16_reckon 82 = .ok (.aload_n 0, 1) := dk_get daX16_reckon 46 (r := (82, .aload_n 0, 1)) rfl
theorem dX16_reckon_83 : decode cX16_reckon 83 = .ok (.dup, 1) := dk_get daX16_reckon 47 (r := (83, .dup, 1)) rfl
theorem dX16_reckon_84 : decode cX16_reckon 84 = .ok (.getfield 521, 3) := dk_get daX16_reckon 48 (r := (84, .getfield 521, 3)) rfl
theorem dX16_reckon_87 : decode cX16_reckon 87 = .ok (.iload_n 2, 1) := dk_get daX16_reckon 49 (r := (87, .iload_n 2, 1)) rfl
theorem dX16_reckon_88 : decode cX16_reckon 88 = .ok (.isub, 1) := dk_get daX16_reckon 50 (r := (88, .isub, 1)) rfl
theorem dX16_reckon_89 : decode cX16_reckon 89 = .ok (.putfield 521, 3) := dk_get daX16_reckon 51 (r := (89, .putfield 521, 3)) rfl
theorem dX16_reckon_92 : decode cX16_reckon 92 = .ok (.iload_n 1, 1) := dk_get daX16_reckon 52 (r := (92, .iload_n 1, 1)) rfl
theorem dX16_reckon_93 : decode cX16_reckon 93 = .ok (.tableswitch 443 139 164 #[119, 129, 443, 443, 139, 148, 167, 167, 205, 216, 443, 443, 443, 443, 443, 227, 252, 277, 277, 308, 327, 346, 365, 384, 403, 423], 119) := dk_get daX16_reckon 53 (r := (93, .tableswitch 443 139 164 #[119, 129, 443, 443, 139, 148, 167, 167, 205, 216, 443, 443, 443, 443, 443, 227, 252, 277, 277, 308, 327, 346, 365, 384, 403, 423], 119)) rfl
theorem dX16_reckon_212 : decode cX16_reckon 212 = .ok (.aload_n 0, 1) := dk_get daX16_reckon 54 (r := (212, .aload_n 0, 1)) rfl
theorem dX16_reckon_213 : decode cX16_reckon 213 = .ok (.lload_n 3, 1) := dk_get daX16_reckon 55 (r := (213, .lload_n 3, 1)) rfl
theorem dX16_reckon_214 : decode cX16_reckon 214 = .ok (.lconst 1, 1) := dk_get daX16_reckon 56 (r := (214, .lconst 1, 1)) rfl
theorem dX16_reckon_215 : decode cX16_reckon 215 = .ok (.ladd, 1) := dk_get daX16_reckon 57 (r := (215, .ladd, 1)) rfl
theorem dX16_reckon_216 : decode cX16_reckon 216 = .ok (.invokevirtual 545, 3) := dk_get daX16_reckon 58 (r := (216, .invokevirtual 545, 3)) rfl
theorem dX16_reckon_219 : decode cX16_reckon 219 = .ok (.goto 341, 3) := dk_get daX16_reckon 59 (r := (219, .goto 341, 3)) rfl
theorem dX16_reckon_222 : decode cX16_reckon 222 = .ok (.aload_n 0, 1) := dk_get daX16_reckon 60 (r := (222, .aload_n 0, 1)) rfl
theorem dX16_reckon_223 : decode cX16_reckon 223 = .ok (.lload_n 3, 1) := dk_get daX16_reckon 61 (r := (223, .lload_n 3, 1)) rfl
theorem dX16_reckon_224 : decode cX16_reckon 224 = .ok (.lconst 1, 1) := dk_get daX16_reckon 62 (r := (224, .lconst 1, 1)) rfl
theorem dX16_reckon_225 : decode cX16_reckon 225 = .ok (.lsub, 1) := dk_get daX16_reckon 63 (r := (225, .lsub, 1)) rfl
theorem dX16_reckon_226 : decode cX16_reckon 226 = .ok (.invokevirtual 545, 3) := dk_get daX16_reckon 64 (r := (226, .invokevirtual 545, 3)) rfl
theorem dX16_reckon_229 : decode cX16_reckon 229 = .ok (.goto 331, 3) := dk_get daX16_reckon 65 (r := (229, .goto 331, 3)) rfl
theorem dX16_reckon_232 : decode cX16_reckon 232 = .ok (.aload_n 0, 1) := dk_get daX16_reckon 66 (r := (232, .aload_n 0, 1)) rfl
theorem dX16_reckon_233 : decode cX16_reckon 233 = .ok (.lload_n 3, 1) := dk_get daX16_reckon 67 (r := (233, .lload_n 3, 1)) rfl
theorem dX16_reckon_234 : decode cX16_reckon 234 = .ok (.lneg, 1) := dk_get daX16_reckon 68 (r := (234, .lneg, 1)) rfl
theorem dX16_reckon_235 : decode cX16_reckon 235 = .ok (.invokevirtual 545, 3) := dk_get daX16_reckon 69 (r := (235, .invokevirtual 545, 3)) rfl
theorem dX16_reckon_238 : decode cX16_reckon 238 = .ok (.goto 322, 3) := dk_get daX16_reckon 70 (r := (238, .goto 322, 3)) rfl
theorem dX16_reckon_241 : decode cX16_reckon 241 = .ok (.aload_n 0, 1) := dk_get daX16_reckon 71 (r := (241, .aload_n 0, 1)) rfl
theorem dX16_reckon_242 : decode cX16_reckon 242 = .ok (.lload_n 3, 1) := dk_get daX16_reckon 72 (r := (242, .lload_n 3, 1)) rfl
theorem dX16_reckon_243 : decode cX16_reckon 243 = .ok (.lconst 0, 1) := dk_get daX16_reckon 73 (r := (243, .lconst 0, 1)) rfl
theorem dX16_reckon_244 : decode cX16_reckon 244 = .ok (.lcmp, 1) := dk_get daX16_reckon 74 (r := (244, .lcmp, 1)) rfl
theorem dX16_reckon_245 : decode cX16_reckon 245 = .ok (.ifCond .ge 8, 3) := dk_get daX16_reckon 75 (r := (245, .ifCond .ge 8, 3)) rfl
theorem dX16_reckon_248 : decode cX16_reckon 248 = .ok (.lload_n 3, 1) := dk_get daX16_reckon 76 (r := (248, .lload_n 3, 1)) rfl
theorem dX16_reckon_249 : decode cX16_reckon 249 = .ok (.lneg, 1) := dk_get daX16_reckon 77 (r := (249, .lneg, 1)) rfl
theorem dX16_reckon_250 : decode cX16_reckon 250 = .ok (.goto 4, 3) := dk_get daX16_reckon 78 (r := (250, .goto 4, 3)) rfl
theorem dX16_reckon_253 : decode cX16_reckon 253 = .ok (.lload_n 3, 1) := dk_get daX16_reckon 79 (r := (253, .lload_n 3, 1)) rfl
theorem dX16_reckon_254 : decode cX16_reckon 254 = .ok (.invokevirtual 545, 3) := dk_get daX16_reckon 80 (r := (254, .invokevirtual 545, 3)) rfl
theorem dX16_reckon_257 : decode cX16_reckon 257 = .ok (.goto 303, 3) := dk_get daX16_reckon 81 (r := (257, .goto 303, 3)) rfl
theorem dX16_reckon_260 : decode cX16_reckon 260 = .ok (.aload_n 0, 1) := dk_get daX16_reckon 82 (r := (260, .aload_n 0, 1)) rfl
theorem dX16_reckon_261 : decode cX16_reckon 261 = .ok (.lload_n 3, 1) := dk_get daX16_reckon 83 (r := (261, .lload_n 3, 1)) rfl
theorem dX16_reckon_262 : decode cX16_reckon 262 = .ok (.lconst 0, 1) := dk_get daX16_reckon 84 (r := (262, .lconst 0, 1)) rfl
theorem dX16_reckon_263 : decode cX16_reckon 263 = .ok (.lcmp, 1) := dk_get daX16_reckon 85 (r := (263, .lcmp, 1)) rfl
theorem dX16_reckon_264 : decode cX16_reckon 264 = .ok (.ifCond .ne 7, 3) := dk_get daX16_reckon 86 (r := (264, .ifCond .ne 7, 3)) rfl
theorem dX16_reckon_267 : decode cX16_reckon 267 = .ok (.iconst 1, 1) := dk_get daX16_reckon 87 (r := (267, .iconst 1, 1)) rfl
theorem dX16_reckon_268 : decode cX16_reckon 268 = .ok (.goto 4, 3) := dk_get daX16_reckon 88 (r := (268, .goto 4, 3)) rfl
theorem dX16_reckon_271 : decode cX16_reckon 271 = .ok (.iconst 0, 1) := dk_get daX16_reckon 89 (r := (271, .iconst 0, 1)) rfl
theorem dX16_reckon_272 : decode cX16_reckon 272 = .ok (.iload_n 1, 1) := dk_get daX16_reckon 90 (r := (272, .iload_n 1, 1)) rfl
theorem dX16_reckon_273 : decode cX16_reckon 273 = .ok (.sipush 145, 3) := dk_get daX16_reckon 91 (r := (273, .sipush 145, 3)) rfl
theorem dX16_reckon_276 : decode cX16_reckon 276 = .ok (.if_icmp .ne 7, 3) := dk_get daX16_reckon 92 (r := (276, .if_icmp .ne 7, 3)) rfl
theorem dX16_reckon_279 : decode cX16_reckon 279 = .ok (.iconst 1, 1) := dk_get daX16_reckon 93 (r := (279, .iconst 1, 1)) rfl
theorem dX16_reckon_280 : decode cX16_reckon 280 = .ok (.goto 4, 3) := dk_get daX16_reckon 94 (r := (280, .goto 4, 3)) rfl
theorem dX16_reckon_283 : decode cX16_reckon 283 = .ok (.iconst 0, 1) := dk_get daX16_reckon 95 (r := (283, .iconst 0, 1)) rfl
theorem dX16_reckon_284 : decode cX16_reckon 284 = .ok (.if_icmp .ne 7, 3) := dk_get daX16_reckon 96 (r := (284, .if_icmp .ne 7, 3)) rfl
theorem dX16_reckon_287 : decode cX16_reckon 287 = .ok (.iconst 1, 1) := dk_get daX16_reckon 97 (r := (287, .iconst 1, 1)) rfl
theorem dX16_reckon_288 : decode cX16_reckon 288 = .ok (.goto 4, 3) := dk_get daX16_reckon 98 (r := (288, .goto 4, 3)) rfl
theorem dX16_reckon_291 : decode cX16_reckon 291 = .ok (.iconst 0, 1) := dk_get daX16_reckon 99 (r := (291, .iconst 0, 1)) rfl
theorem dX16_reckon_292 : decode cX16_reckon 292 = .ok (.invokevirtual 599, 3) := dk_get daX16_reckon 100 (r := (292, .invokevirtual 599, 3)) rfl
theorem dX16_reckon_295 : decode cX16_reckon 295 = .ok (.goto 265, 3) := dk_get daX16_reckon 101 (r := (295, .goto 265, 3)) rfl
theorem dX16_reckon_298 : decode cX16_reckon 298 = .ok (.aload_n 0, 1) := dk_get daX16_reckon 102 (r := (298, .aload_n 0, 1)) rfl
theorem dX16_reckon_299 : decode cX16_reckon 299 = .ok (.lload 5, 2) := dk_get daX16_reckon 103 (r := (299, .lload 5, 2)) rfl
theorem dX16_reckon_301 : decode cX16_reckon 301 = .ok (.lload_n 3, 1) := dk_get daX16_reckon 104 (r := (301, .lload_n 3, 1)) rfl
theorem dX16_reckon_302 : decode cX16_reckon 302 = .ok (.ladd, 1) := dk_get daX16_reckon 105 (r := (302, .ladd, 1)) rfl
theorem dX16_reckon_303 : decode cX16_reckon 303 = .ok (.invokevirtual 545, 3) := dk_get daX16_reckon 106 (r := (303, .invokevirtual 545, 3)) rfl
theorem dX16_reckon_306 : decode cX16_reckon 306 = .ok (.goto 254, 3) := dk_get daX16_reckon 107 (r := (306, .goto 254, 3)) rfl
theorem dX16_reckon_309 : decode cX16_reckon 309 = .ok (.aload_n 0, 1) := dk_get daX16_reckon 108 (r := (309, .aload_n 0, 1)) rfl
theorem dX16_reckon_310 : decode cX16_reckon 310 = .ok (.lload 5, 2) := dk_get daX16_reckon 109 (r := (310, .lload 5, 2)) rfl
theorem dX16_reckon_312 : decode cX16_reckon 312 = .ok (.lload_n 3, 1) := dk_get daX16_reckon 110 (r := (312, .lload_n 3, 1)) rfl
theorem dX16_reckon_313 : decode cX16_reckon 313 = .ok (.lsub, 1) := dk_get daX16_reckon 111 (r := (313, .lsub, 1)) rfl
theorem dX16_reckon_314 : decode cX16_reckon 314 = .ok (.invokevirtual 545, 3) := dk_get daX16_reckon 112 (r := (314, .invokevirtual 545, 3)) rfl
theorem dX16_reckon_317 : decode cX16_reckon 317 = .ok (.goto 243, 3) := dk_get daX16_reckon 113 (r := (317, .goto 243, 3)) rfl
theorem dX16_reckon_320 : decode cX16_reckon 320 = .ok (.aload_n 0, 1) := dk_get daX16_reckon 114 (r := (320, .aload_n 0, 1)) rfl
theorem dX16_reckon_321 : decode cX16_reckon 321 = .ok (.lload 5, 2) := dk_get daX16_reckon 115 (r := (321, .lload 5, 2)) rfl
theorem dX16_reckon_323 : decode cX16_reckon 323 = .ok (.lconst 0, 1) := dk_get daX16_reckon 116 (r := (323, .lconst 0, 1)) rfl
theorem dX16_reckon_324 : decode cX16_reckon 324 = .ok (.lcmp, 1) := dk_get daX16_reckon 117 (r := (324, .lcmp, 1)) rfl
theorem dX16_reckon_325 : decode cX16_reckon 325 = .ok (.ifCond .eq 13, 3) := dk_get daX16_reckon 118 (r := (325, .ifCond .eq 13, 3)) rfl
theorem dX16_reckon_328 : decode cX16_reckon 328 = .ok (.lload_n 3, 1) := dk_get daX16_reckon 119 (r := (328, .lload_n 3, 1)) rfl
theorem dX16_reckon_329 : decode cX16_reckon 329 = .ok (.lconst 0, 1) := dk_get daX16_reckon 120 (r := (329, .lconst 0, 1)) rfl
theorem dX16_reckon_330 : decode cX16_reckon 330 = .ok (.lcmp, 1) := dk_get daX16_reckon 121 (r := (330, .lcmp, 1)) rfl
theorem dX16_reckon_331 : decode cX16_reckon 331 = .ok (.ifCond .eq 7, 3) := dk_get daX16_reckon 122 (r := (331, .ifCond .eq 7, 3)) rfl
theorem dX16_reckon_334 : decode cX16_reckon 334 = .ok (.iconst 1, 1) := dk_get daX16_reckon 123 (r := (334, .iconst 1, 1)) rfl
theorem dX16_reckon_335 : decode cX16_reckon 335 = .ok (.goto 4, 3) := dk_get daX16_reckon 124 (r := (335, .goto 4, 3)) rfl
theorem dX16_reckon_338 : decode cX16_reckon 338 = .ok (.iconst 0, 1) := dk_get daX16_reckon 125 (r := (338, .iconst 0, 1)) rfl
theorem dX16_reckon_339 : decode cX16_reckon 339 = .ok (.invokevirtual 599, 3) := dk_get daX16_reckon 126 (r := (339, .invokevirtual 599, 3)) rfl
theorem dX16_reckon_342 : decode cX16_reckon 342 = .ok (.goto 218, 3) := dk_get daX16_reckon 127 (r := (342, .goto 218, 3)) rfl
theorem dX16_reckon_345 : decode cX16_reckon 345 = .ok (.aload_n 0, 1) := dk_get daX16_reckon 128 (r := (345, .aload_n 0, 1)) rfl
theorem dX16_reckon_346 : decode cX16_reckon 346 = .ok (.lload 5, 2) := dk_get daX16_reckon 129 (r := (346, .lload 5, 2)) rfl
theorem dX16_reckon_348 : decode cX16_reckon 348 = .ok (.lconst 0, 1) := dk_get daX16_reckon 130 (r := (348, .lconst 0, 1)) rfl
theorem dX16_reckon_349 : decode cX16_reckon 349 = .ok (.lcmp, 1) := dk_get daX16_reckon 131 (r := (349, .lcmp, 1)) rfl
theorem dX16_reckon_350 : decode cX16_reckon 350 = .ok (.ifCond .ne 9, 3) := dk_get daX16_reckon 132 (r := (350, .ifCond .ne 9, 3)) rfl
theorem dX16_reckon_353 : decode cX16_reckon 353 = .ok (.lload_n 3, 1) := dk_get daX16_reckon 133 (r := (353, .lload_n 3, 1)) rfl
theorem dX16_reckon_354 : decode cX16_reckon 354 = .ok (.lconst 0, 1) := dk_get daX16_reckon 134 (r := (354, .lconst 0, 1)) rfl
theorem dX16_reckon_355 : decode cX16_reckon 355 = .ok (.lcmp, 1) := dk_get daX16_reckon 135 (r := (355, .lcmp, 1)) rfl
theorem dX16_reckon_356 : decode cX16_reckon 356 = .ok (.ifCond .eq 7, 3) := dk_get daX16_reckon 136 (r := (356, .ifCond .eq 7, 3)) rfl
theorem dX16_reckon_359 : decode cX16_reckon 359 = .ok (.iconst 1, 1) := dk_get daX16_reckon 137 (r := (359, .iconst 1, 1)) rfl
theorem dX16_reckon_360 : decode cX16_reckon 360 = .ok (.goto 4, 3) := dk_get daX16_reckon 138 (r := (360, .goto 4, 3)) rfl
theorem dX16_reckon_363 : decode cX16_reckon 363 = .ok (.iconst 0, 1) := dk_get daX16_reckon 139 (r := (363, .iconst 0, 1)) rfl
theorem dX16_reckon_364 : decode cX16_reckon 364 = .ok (.invokevirtual 599, 3) := dk_get daX16_reckon 140 (r := (364, .invokevirtual 599, 3)) rfl
theorem dX16_reckon_367 : decode cX16_reckon 367 = .ok (.goto 193, 3) := dk_get daX16_reckon 141 (r := (367, .goto 193, 3)) rfl
theorem dX16_reckon_370 : decode cX16_reckon 370 = .ok (.aload_n 0, 1) := dk_get daX16_reckon 142 (r := (370, .aload_n 0, 1)) rfl
theorem dX16_reckon_371 : decode cX16_reckon 371 = .ok (.lload 5, 2) := dk_get daX16_reckon 143 (r := (371, .lload 5, 2)) rfl
theorem dX16_reckon_373 : decode cX16_reckon 373 = .ok (.lload_n 3, 1) := dk_get daX16_reckon 144 (r := (373, .lload_n 3, 1)) rfl
theorem dX16_reckon_374 : decode cX16_reckon 374 = .ok (.lcmp, 1) := dk_get daX16_reckon 145 (r := (374, .lcmp, 1)) rfl
theorem dX16_reckon_375 : decode cX16_reckon 375 = .ok (.ifCond .ne 7, 3) := dk_get daX16_reckon 146 (r := (375, .ifCond .ne 7, 3)) rfl
theorem dX16_reckon_378 : decode cX16_reckon 378 = .ok (.iconst 1, 1) := dk_get daX16_reckon 147 (r := (378, .iconst 1, 1)) rfl
theorem dX16_reckon_379 : decode cX16_reckon 379 = .ok (.goto 4, 3) := dk_get daX16_reckon 148 (r := (379, .goto 4, 3)) rfl
theorem dX16_reckon_382 : decode cX16_reckon 382 = .ok (.iconst 0, 1) := dk_get daX16_reckon 149 (r := (382, .iconst 0, 1)) rfl
theorem dX16_reckon_383 : decode cX16_reckon 383 = .ok (.iload_n 1, 1) := dk_get daX16_reckon 150 (r := (383, .iload_n 1, 1)) rfl
theorem dX16_reckon_384 : decode cX16_reckon 384 = .ok (.sipush 157, 3) := dk_get daX16_reckon 151 (r := (384, .sipush 157, 3)) rfl
theorem dX16_reckon_387 : decode cX16_reckon 387 = .ok (.if_icmp .ne 7, 3) := dk_get daX16_reckon 152 (r := (387, .if_icmp .ne 7, 3)) rfl
theorem dX16_reckon_390 : decode cX16_reckon 390 = .ok (.iconst 1, 1) := dk_get daX16_reckon 153 (r := (390, .iconst 1, 1)) rfl
theorem dX16_reckon_391 : decode cX16_reckon 391 = .ok (.goto 4, 3) := dk_get daX16_reckon 154 (r := (391, .goto 4, 3)) rfl
theorem dX16_reckon_394 : decode cX16_reckon 394 = .ok (.iconst 0, 1) := dk_get daX16_reckon 155 (r := (394, .iconst 0, 1)) rfl
theorem dX16_reckon_395 : decode cX16_reckon 395 = .ok (.invokevirtual 595, 3) := dk_get daX16_reckon 156 (r := (395, .invokevirtual 595, 3)) rfl
theorem dX16_reckon_398 : decode cX16_reckon 398 = .ok (.goto 162, 3) := dk_get daX16_reckon 157 (r := (398, .goto 162, 3)) rfl
theorem dX16_reckon_401 : decode cX16_reckon 401 = .ok (.aload_n 0, 1) := dk_get daX16_reckon 158 (r := (401, .aload_n 0, 1)) rfl
theorem dX16_reckon_402 : decode cX16_reckon 402 = .ok (.lload 5, 2) := dk_get daX16_reckon 159 (r := (402, .lload 5, 2)) rfl
theorem dX16_reckon_404 : decode cX16_reckon 404 = .ok (.lload_n 3, 1) := dk_get daX16_reckon 160 (r := (404, .lload_n 3, 1)) rfl
theorem dX16_reckon_405 : decode cX16_reckon 405 = .ok (.lcmp, 1) := dk_get daX16_reckon 161 (r := (405, .lcmp, 1)) rfl
theorem dX16_reckon_406 : decode cX16_reckon 406 = .ok (.ifCond .eq 7, 3) := dk_get daX16_reckon 162 (r := (406, .ifCond .eq 7, 3)) rfl
theorem dX16_reckon_409 : decode cX16_reckon 409 = .ok (.iconst 1, 1) := dk_get daX16_reckon 163 (r := (409, .iconst 1, 1)) rfl
theorem dX16_reckon_410 : decode cX16_reckon 410 = .ok (.goto 4, 3) := dk_get daX16_reckon 164 (r := (410, .goto 4, 3)) rfl
theorem dX16_reckon_413 : decode cX16_reckon 413 = .ok (.iconst 0, 1) := dk_get daX16_reckon 165 (r := (413, .iconst 0, 1)) rfl
theorem dX16_reckon_414 : decode cX16_reckon 414 = .ok (.invokevirtual 599, 3) := dk_get daX16_reckon 166 (r := (414, .invokevirtual 599, 3)) rfl
theorem dX16_reckon_417 : decode cX16_reckon 417 = .ok (.goto 143, 3) := dk_get daX16_reckon 167 (r := (417, .goto 143, 3)) rfl
theorem dX16_reckon_420 : decode cX16_reckon 420 = .ok (.aload_n 0, 1) := dk_get daX16_reckon 168 (r := (420, .aload_n 0, 1)) rfl
theorem dX16_reckon_421 : decode cX16_reckon 421 = .ok (.lload 5, 2) := dk_get daX16_reckon 169 (r := (421, .lload 5, 2)) rfl
theorem dX16_reckon_423 : decode cX16_reckon 423 = .ok (.lload_n 3, 1) := dk_get daX16_reckon 170 (r := (423, .lload_n 3, 1)) rfl
theorem dX16_reckon_424 : decode cX16_reckon 424 = .ok (.lcmp, 1) := dk_get daX16_reckon 171 (r := (424, .lcmp, 1)) rfl
theorem dX16_reckon_425 : decode cX16_reckon 425 = .ok (.ifCond .ge 7, 3) := dk_get daX16_reckon 172 (r := (425, .ifCond .ge 7, 3)) rfl
theorem dX16_reckon_428 : decode cX16_reckon 428 = .ok (.iconst 1, 1) := dk_get daX16_reckon 173 (r := (428, .iconst 1, 1)) rfl
theorem dX16_reckon_429 : decode cX16_reckon 429 = .ok (.goto 4, 3) := dk_get daX16_reckon 174 (r := (429, .goto 4, 3)) rfl
theorem dX16_reckon_432 : decode cX16_reckon 432 = .ok (.iconst 0, 1) := dk_get daX16_reckon 175 (r := (432, .iconst 0, 1)) rfl
theorem dX16_reckon_433 : decode cX16_reckon 433 = .ok (.invokevirtual 599, 3) := dk_get daX16_reckon 176 (r := (433, .invokevirtual 599, 3)) rfl
theorem dX16_reckon_436 : decode cX16_reckon 436 = .ok (.goto 124, 3) := dk_get daX16_reckon 177 (r := (436, .goto 124, 3)) rfl
theorem dX16_reckon_439 : decode cX16_reckon 439 = .ok (.aload_n 0, 1) := dk_get daX16_reckon 178 (r := (439, .aload_n 0, 1)) rfl
theorem dX16_reckon_440 : decode cX16_reckon 440 = .ok (.lload 5, 2) := dk_get daX16_reckon 179 (r := (440, .lload 5, 2)) rfl
theorem dX16_reckon_442 : decode cX16_reckon 442 = .ok (.lload_n 3, 1) := dk_get daX16_reckon 180 (r := (442, .lload_n 3, 1)) rfl
theorem dX16_reckon_443 : decode cX16_reckon 443 = .ok (.lcmp, 1) := dk_get daX16_reckon 181 (r := (443, .lcmp, 1)) rfl
theorem dX16_reckon_444 : decode cX16_reckon 444 = .ok (.ifCond .le 7, 3) := dk_get daX16_reckon 182 (r := (444, .ifCond .le 7, 3)) rfl
theorem dX16_reckon_447 : decode cX16_reckon 447 = .ok (.iconst 1, 1) := dk_get daX16_reckon 183 (r := (447, .iconst 1, 1)) rfl
theorem dX16_reckon_448 : decode cX16_reckon 448 = .ok (.goto 4, 3) := dk_get daX16_reckon 184 (r := (448, .goto 4, 3)) rfl
theorem dX16_reckon_451 : decode cX16_reckon 451 = .ok (.iconst 0, 1) := dk_get daX16_reckon 185 (r := (451, .iconst 0, 1)) rfl
theorem dX16_reckon_452 : decode cX16_reckon 452 = .ok (.invokevirtual 599, 3) := dk_get daX16_reckon 186 (r := (452, .invokevirtual 599, 3)) rfl
theorem dX16_reckon_455 : decode cX16_reckon 455 = .ok (.goto 105, 3) := dk_get daX16_reckon 187 (r := (455, .goto 105, 3)) rfl
theorem dX16_reckon_458 : decode cX16_reckon 458 = .ok (.aload_n 0, 1) := dk_get daX16_reckon 188 (r := (458, .aload_n 0, 1)) rfl
theorem dX16_reckon_459 : decode cX16_reckon 459 = .ok (.lload 5, 2) := dk_get daX16_reckon 189 (r := (459, .lload 5, 2)) rfl
theorem dX16_reckon_461 : decode cX16_reckon 461 = .ok (.lload_n 3, 1) := dk_get daX16_reckon 190 (r := (461, .lload_n 3, 1)) rfl
theorem dX16_reckon_462 : decode cX16_reckon 462 = .ok (.lcmp, 1) := dk_get daX16_reckon 191 (r := (462, .lcmp, 1)) rfl
theorem dX16_reckon_463 : decode cX16_reckon 463 = .ok (.ifCond .gt 7, 3) := dk_get daX16_reckon 192 (r := (463, .ifCond .gt 7, 3)) rfl
theorem dX16_reckon_466 : decode cX16_reckon 466 = .ok (.iconst 1, 1) := dk_get daX16_reckon 193 (r := (466, .iconst 1, 1)) rfl
theorem dX16_reckon_467 : decode cX16_reckon 467 = .ok (.goto 4, 3) := dk_get daX16_reckon 194 (r := (467, .goto 4, 3)) rfl
theorem dX16_reckon_470 : decode cX16_reckon 470 = .ok (.iconst 0, 1) := dk_get daX16_reckon 195 (r := (470, .iconst 0, 1)) rfl
theorem dX16_reckon_471 : decode cX16_reckon 471 = .ok (.invokevirtual 599, 3) := dk_get daX16_reckon 196 (r := (471, .invokevirtual 599, 3)) rfl
theorem dX16_reckon_474 : decode cX16_reckon 474 = .ok (.goto 86, 3) := dk_get daX16_reckon 197 (r := (474, .goto 86, 3)) rfl
theorem dX16_reckon_477 : decode cX16_reckon 477 = .ok (.aload_n 0, 1) := dk_get daX16_reckon 198 (r := (477, .aload_n 0, 1)) rfl
theorem dX16_reckon_478 : decode cX16_reckon 478 = .ok (.lload 5, 2) := dk_get daX16_reckon 199 (r := (478, .lload 5, 2)) rfl
theorem dX16_reckon_480 : decode cX16_reckon 480 = .ok (.lload_n 3, 1) := dk_get daX16_reckon 200 (r := (480, .lload_n 3, 1)) rfl
theorem dX16_reckon_481 : decode cX16_reckon 481 = .ok (.lcmp, 1) := dk_get daX16_reckon 201 (r := (481, .lcmp, 1)) rfl
theorem dX16_reckon_482 : decode cX16_reckon 482 = .ok (.ifCond .lt 7, 3) := dk_get daX16_reckon 202 (r := (482, .ifCond .lt 7, 3)) rfl
theorem dX16_reckon_485 : decode cX16_reckon 485 = .ok (.iconst 1, 1) := dk_get daX16_reckon 203 (r := (485, .iconst 1, 1)) rfl
theorem dX16_reckon_486 : decode cX16_reckon 486 = .ok (.goto 4, 3) := dk_get daX16_reckon 204 (r := (486, .goto 4, 3)) rfl
theorem dX16_reckon_489 : decode cX16_reckon 489 = .ok (.iconst 0, 1) := dk_get daX16_reckon 205 (r := (489, .iconst 0, 1)) rfl
theorem dX16_reckon_490 : decode cX16_reckon 490 = .ok (.invokevirtual 599, 3) := dk_get daX16_reckon 206 (r := (490, .invokevirtual 599, 3)) rfl
theorem dX16_reckon_493 : decode cX16_reckon 493 = .ok (.goto 67, 3) := dk_get daX16_reckon 207 (r := (493, .goto 67, 3)) rfl
theorem dX16_reckon_496 : decode cX16_reckon 496 = .ok (.aload_n 0, 1) := dk_get daX16_reckon 208 (r := (496, .aload_n 0, 1)) rfl
theorem dX16_reckon_497 : decode cX16_reckon 497 = .ok (.lload 5, 2) := dk_get daX16_reckon 209 (r := (497, .lload 5, 2)) rfl
theorem dX16_reckon_499 : decode cX16_reckon 499 = .ok (.lload_n 3, 1) := dk_get daX16_reckon 210 (r := (499, .lload_n 3, 1)) rfl
theorem dX16_reckon_500 : decode cX16_reckon 500 = .ok (.lcmp, 1) := dk_get daX16_reckon 211 (r := (500, .lcmp, 1)) rfl
theorem dX16_reckon_501 : decode cX16_reckon 501 = .ok (.ifCond .ge 8, 3) := dk_get daX16_reckon 212 (r := (501, .ifCond .ge 8, 3)) rfl
theorem dX16_reckon_504 : decode cX16_reckon 504 = .ok (.lload 5, 2) := dk_get daX16_reckon 213 (r := (504, .lload 5, 2)) rfl
theorem dX16_reckon_506 : decode cX16_reckon 506 = .ok (.goto 4, 3) := dk_get daX16_reckon 214 (r := (506, .goto 4, 3)) rfl
theorem dX16_reckon_509 : decode cX16_reckon 509 = .ok (.lload_n 3, 1) := dk_get daX16_reckon 215 (r := (509, .lload_n 3, 1)) rfl
theorem dX16_reckon_510 : decode cX16_reckon 510 = .ok (.invokevirtual 545, 3) := dk_get daX16_reckon 216 (r := (510, .invokevirtual 545, 3)) rfl
theorem dX16_reckon_513 : decode cX16_reckon 513 = .ok (.goto 47, 3) := dk_get daX16_reckon 217 (r := (513, .goto 47, 3)) rfl
theorem dX16_reckon_516 : decode cX16_reckon 516 = .ok (.aload_n 0, 1) := dk_get daX16_reckon 218 (r := (516, .aload_n 0, 1)) rfl
theorem dX16_reckon_517 : decode cX16_reckon 517 = .ok (.lload 5, 2) := dk_get daX16_reckon 219 (r := (517, .lload 5, 2)) rfl
theorem dX16_reckon_519 : decode cX16_reckon 519 = .ok (.lload_n 3, 1) := dk_get daX16_reckon 220 (r := (519, .lload_n 3, 1)) rfl
theorem dX16_reckon_520 : decode cX16_reckon 520 = .ok (.lcmp, 1) := dk_get daX16_reckon 221 (r := (520, .lcmp, 1)) rfl
theorem dX16_reckon_521 : decode cX16_reckon 521 = .ok (.ifCond .le 8, 3) := dk_get daX16_reckon 222 (r := (521, .ifCond .le 8, 3)) rfl
theorem dX16_reckon_524 : decode cX16_reckon 524 = .ok (.lload 5, 2) := dk_get daX16_reckon 223 (r := (524, .lload 5, 2)) rfl
theorem dX16_reckon_526 : decode cX16_reckon 526 = .ok (.goto 4, 3) := dk_get daX16_reckon 224 (r := (526, .goto 4, 3)) rfl
theorem dX16_reckon_529 : decode cX16_reckon 529 = .ok (.lload_n 3, 1) := dk_get daX16_reckon 225 (r := (529, .lload_n 3, 1)) rfl
theorem dX16_reckon_530 : decode cX16_reckon 530 = .ok (.invokevirtual 545, 3) := dk_get daX16_reckon 226 (r := (530, .invokevirtual 545, 3)) rfl
theorem dX16_reckon_533 : decode cX16_reckon 533 = .ok (.goto 27, 3) := dk_get daX16_reckon 227 (r := (533, .goto 27, 3)) rfl
theorem dX16_reckon_536 : decode cX16_reckon 536 = .ok (.aload_n 0, 1) := dk_get daX16_reckon 228 (r := (536, .aload_n 0, 1)) rfl
theorem dX16_reckon_537 : decode cX16_reckon 537 = .ok (.lload 5, 2) := dk_get daX16_reckon 229 (r := (537, .lload 5, 2)) rfl
theorem dX16_reckon_539 : decode cX16_reckon 539 = .ok (.lload 7, 2) := dk_get daX16_reckon 230 (r := (539, .lload 7, 2)) rfl
theorem dX16_reckon_541 : decode cX16_reckon 541 = .ok (.lcmp, 1) := dk_get daX16_reckon 231 (r := (541, .lcmp, 1)) rfl
theorem dX16_reckon_542 : decode cX16_reckon 542 = .ok (.ifCond .gt 14, 3) := dk_get daX16_reckon 232 (r := (542, .ifCond .gt 14, 3)) rfl
theorem dX16_reckon_545 : decode cX16_reckon 545 = .ok (.lload 7, 2) := dk_get daX16_reckon 233 (r := (545, .lload 7, 2)) rfl
theorem dX16_reckon_547 : decode cX16_reckon 547 = .ok (.lload_n 3, 1) := dk_get daX16_reckon 234 (r := (547, .lload_n 3, 1)) rfl
theorem dX16_reckon_548 : decode cX16_reckon 548 = .ok (.lcmp, 1) := dk_get daX16_reckon 235 (r := (548, .lcmp, 1)) rfl
theorem dX16_reckon_549 : decode cX16_reckon 549 = .ok (.ifCond .ge 7, 3) := dk_get daX16_reckon 236 (r := (549, .ifCond .ge 7, 3)) rfl
theorem dX16_reckon_552 : decode cX16_reckon 552 = .ok (.iconst 1, 1) := dk_get daX16_reckon 237 (r := (552, .iconst 1, 1)) rfl
theorem dX16_reckon_553 : decode cX16_reckon 553 = .ok (.goto 4, 3) := dk_get daX16_reckon 238 (r := (553, .goto 4, 3)) rfl
theorem dX16_reckon_556 : decode cX16_reckon 556 = .ok (.iconst 0, 1) := dk_get daX16_reckon 239 (r := (556, .iconst 0, 1)) rfl
theorem dX16_reckon_557 : decode cX16_reckon 557 = .ok (.invokevirtual 599, 3) := dk_get daX16_reckon 240 (r := (557, .invokevirtual 599, 3)) rfl
theorem dX16_reckon_560 : decode cX16_reckon 560 = .ok (.return_, 1) := dk_get daX16_reckon 241 (r := (560, .return_, 1)) rfl
abbrev mX16_digested : ks_M := (RX16, cX16_digested, 4, none, "digested")
def drX16_digested : List (Nat × Instr × Nat) := [(0, .aload_n 0, 1), (1, .getfield 527, 3), (4, .aload_n 0, 1), (5, .getfield 521, 3), (8, .iconst 1, 1), (9, .isub, 1), (10, .aaload, 1), (11, .astore_n 2, 1), (12, .aload_n 0, 1), (13, .getfield 535, 3), (16, .aload_n 0, 1), (17, .getfield 521, 3), (20, .iconst 1, 1), (21, .isub, 1), (22, .iaload, 1), (23, .istore_n 3, 1), (24, .iload_n 1, 1), (25, .sipush 166, 3), (28, .if_icmp .ne 18, 3), (31, .aload_n 0, 1), (32, .aload_n 2, 1), (33, .iconst 0, 1), (34, .iload_n 3, 1), (35, .aload_n 0, 1), (36, .getfield 636, 3), (39, .iconst 0, 1), (40, .invokevirtual 87, 3), (43, .goto 59, 3), (46, .iload_n 1, 1), (47, .sipush 168, 3), (50, .if_icmp .ne 18, 3), (53, .aload_n 0, 1), (54, .aload_n 2, 1), (55, .iconst 0, 1), (56, .iload_n 3, 1), (57, .aload_n 0, 1), (58, .getfield 636, 3), (61, .iconst 0, 1), (62, .invokevirtual 83, 3), (65, .goto 37, 3), (68, .iload_n 1, 1), (69, .sipush 169, 3), (72, .if_icmp .ne 18, 3), (75, .aload_n 0, 1), (76, .aload_n 2, 1), (77, .iconst 0, 1), (78, .iload_n 3, 1), (79, .aload_n 0, 1), (80, .getfield 636, 3), (83, .iconst 0, 1), (84, .invokevirtual 639, 3), (87, .goto 15, 3), (90, .aload_n 0, 1), (91, .aload_n 2, 1), (92, .iconst 0, 1), (93, .iload_n 3, 1), (94, .aload_n 0, 1), (95, .getfield 636, 3), (98, .iconst 0, 1), (99, .invokevirtual 319, 3), (102, .aload_n 0, 1), (103, .dup, 1), (104, .getfield 521, 3), (107, .iconst 1, 1), (108, .isub, 1), (109, .putfield 521, 3), (112, .aload_n 0, 1), (113, .aload_n 0, 1), (114, .getfield 636, 3), (117, .iconst 0, 1), (118, .iload_n 1, 1), (119, .sipush 166, 3), (122, .if_icmp .eq 10, 3), (125, .iload_n 1, 1), (126, .sipush 169, 3), (129, .if_icmp .ne 8, 3), (132, .bipush 20, 2), (134, .goto 5, 3), (137, .bipush 32, 2), (139, .invokevirtual 538, 3), (142, .return_, 1)]
set_option maxRecDepth 100000 in
theorem daX16_digested : dk_all cX16_digested drX16_digested = true := by decide +kernel
theorem dX16_digested_0 : decode cX16_digested 0 = .ok (.aload_n 0, 1) := dk_get daX16_digested 0 (r := (0, .aload_n 0, 1)) rfl
theorem dX16_digested_1 : decode cX16_digested 1 = .ok (.getfield 527, 3) := dk_get daX16_digested 1 (r := (1, .getfield 527, 3)) rfl
theorem dX16_digested_4 : decode cX16_digested 4 = .ok (.aload_n 0, 1) := dk_get daX16_digested 2 (r := (4, .aload_n 0, 1)) rfl
theorem dX16_digested_5 : decode cX16_digested 5 = .ok (.getfield 521, 3) := dk_get daX16_digested 3 (r := (5, .getfield 521, 3)) rfl
theorem dX16_digested_8 : decode cX16_digested 8 = .ok (.iconst 1, 1) := dk_get daX16_digested 4 (r := (8, .iconst 1, 1)) rfl
theorem dX16_digested_9 : decode cX16_digested 9 = .ok (.isub, 1) := dk_get daX16_digested 5 (r := (9, .isub, 1)) rfl
theorem dX16_digested_10 : decode cX16_digested 10 = .ok (.aaload, 1) := dk_get daX16_digested 6 (r := (10, .aaload, 1)) rfl
theorem dX16_digested_11 : decode cX16_digested 11 = .ok (.astore_n 2, 1) := dk_get daX16_digested 7 (r := (11, .astore_n 2, 1)) rfl
theorem dX16_digested_12 : decode cX16_digested 12 = .ok (.aload_n 0, 1) := dk_get daX16_digested 8 (r := (12, .aload_n 0, 1)) rfl
theorem dX16_digested_13 : decode cX16_digested 13 = .ok (.getfield 535, 3) := dk_get daX16_digested 9 (r := (13, .getfield 535, 3)) rfl
theorem dX16_digested_16 : decode cX16_digested 16 = .ok (.aload_n 0, 1) := dk_get daX16_digested 10 (r := (16, .aload_n 0, 1)) rfl
theorem dX16_digested_17 : decode cX16_digested 17 = .ok (.getfield 521, 3) := dk_get daX16_digested 11 (r := (17, .getfield 521, 3)) rfl
theorem dX16_digested_20 : decode cX16_digested 20 = .ok (.iconst 1, 1) := dk_get daX16_digested 12 (r := (20, .iconst 1, 1)) rfl
theorem dX16_digested_21 : decode cX16_digested 21 = .ok (.isub, 1) := dk_get daX16_digested 13 (r := (21, .isub, 1)) rfl
theorem dX16_digested_22 : decode cX16_digested 22 = .ok (.iaload, 1) := dk_get daX16_digested 14 (r := (22, .iaload, 1)) rfl
theorem dX16_digested_23 : decode cX16_digested 23 = .ok (.istore_n 3, 1) := dk_get daX16_digested 15 (r := (23, .istore_n 3, 1)) rfl
theorem dX16_digested_24 : decode cX16_digested 24 = .ok (.iload_n 1, 1) := dk_get daX16_digested 16 (r := (24, .iload_n 1, 1)) rfl
theorem dX16_digested_25 : decode cX16_digested 25 = .ok (.sipush 166, 3) := dk_get daX16_digested 17 (r := (25, .sipush 166, 3)) rfl
theorem dX16_digested_28 : decode cX16_digested 28 = .ok (.if_icmp .ne 18, 3) := dk_get daX16_digested 18 (r := (28, .if_icmp .ne 18, 3)) rfl
theorem dX16_digested_31 : decode cX16_digested 31 = .ok (.aload_n 0, 1) := dk_get daX16_digested 19 (r := (31, .aload_n 0, 1)) rfl
theorem dX16_digested_32 : decode cX16_digested 32 = .ok (.aload_n 2, 1) := dk_get daX16_digested 20 (r := (32, .aload_n 2, 1)) rfl
theorem dX16_digested_33 : decode cX16_digested 33 = .ok (.iconst 0, 1) := dk_get daX16_digested 21 (r := (33, .iconst 0, 1)) rfl
theorem dX16_digested_34 : decode cX16_digested 34 = .ok (.iload_n 3, 1) := dk_get daX16_digested 22 (r := (34, .iload_n 3, 1)) rfl
theorem dX16_digested_35 : decode cX16_digested 35 = .ok (.aload_n 0, 1) := dk_get daX16_digested 23 (r := (35, .aload_n 0, 1)) rfl
theorem dX16_digested_36 : decode cX16_digested 36 = .ok (.getfield 636, 3) := dk_get daX16_digested 24 (r := (36, .getfield 636, 3)) rfl
theorem dX16_digested_39 : decode cX16_digested 39 = .ok (.iconst 0, 1) := dk_get daX16_digested 25 (r := (39, .iconst 0, 1)) rfl
theorem dX16_digested_40 : decode cX16_digested 40 = .ok (.invokevirtual 87, 3) := dk_get daX16_digested 26 (r := (40, .invokevirtual 87, 3)) rfl
theorem dX16_digested_43 : decode cX16_digested 43 = .ok (.goto 59, 3) := dk_get daX16_digested 27 (r := (43, .goto 59, 3)) rfl
theorem dX16_digested_46 : decode cX16_digested 46 = .ok (.iload_n 1, 1) := dk_get daX16_digested 28 (r := (46, .iload_n 1, 1)) rfl
theorem dX16_digested_47 : decode cX16_digested 47 = .ok (.sipush 168, 3) := dk_get daX16_digested 29 (r := (47, .sipush 168, 3)) rfl
theorem dX16_digested_50 : decode cX16_digested 50 = .ok (.if_icmp .ne 18, 3) := dk_get daX16_digested 30 (r := (50, .if_icmp .ne 18, 3)) rfl
theorem dX16_digested_53 : decode cX16_digested 53 = .ok (.aload_n 0, 1) := dk_get daX16_digested 31 (r := (53, .aload_n 0, 1)) rfl
theorem dX16_digested_54 : decode cX16_digested 54 = .ok (.aload_n 2, 1) := dk_get daX16_digested 32 (r := (54, .aload_n 2, 1)) rfl
theorem dX16_digested_55 : decode cX16_digested 55 = .ok (.iconst 0, 1) := dk_get daX16_digested 33 (r := (55, .iconst 0, 1)) rfl
theorem dX16_digested_56 : decode cX16_digested 56 = .ok (.iload_n 3, 1) := dk_get daX16_digested 34 (r := (56, .iload_n 3, 1)) rfl
theorem dX16_digested_57 : decode cX16_digested 57 = .ok (.aload_n 0, 1) := dk_get daX16_digested 35 (r := (57, .aload_n 0, 1)) rfl
theorem dX16_digested_58 : decode cX16_digested 58 = .ok (.getfield 636, 3) := dk_get daX16_digested 36 (r := (58, .getfield 636, 3)) rfl
theorem dX16_digested_61 : decode cX16_digested 61 = .ok (.iconst 0, 1) := dk_get daX16_digested 37 (r := (61, .iconst 0, 1)) rfl
theorem dX16_digested_62 : decode cX16_digested 62 = .ok (.invokevirtual 83, 3) := dk_get daX16_digested 38 (r := (62, .invokevirtual 83, 3)) rfl
theorem dX16_digested_65 : decode cX16_digested 65 = .ok (.goto 37, 3) := dk_get daX16_digested 39 (r := (65, .goto 37, 3)) rfl
theorem dX16_digested_68 : decode cX16_digested 68 = .ok (.iload_n 1, 1) := dk_get daX16_digested 40 (r := (68, .iload_n 1, 1)) rfl
theorem dX16_digested_69 : decode cX16_digested 69 = .ok (.sipush 169, 3) := dk_get daX16_digested 41 (r := (69, .sipush 169, 3)) rfl
theorem dX16_digested_72 : decode cX16_digested 72 = .ok (.if_icmp .ne 18, 3) := dk_get daX16_digested 42 (r := (72, .if_icmp .ne 18, 3)) rfl
theorem dX16_digested_75 : decode cX16_digested 75 = .ok (.aload_n 0, 1) := dk_get daX16_digested 43 (r := (75, .aload_n 0, 1)) rfl
theorem dX16_digested_76 : decode cX16_digested 76 = .ok (.aload_n 2, 1) := dk_get daX16_digested 44 (r := (76, .aload_n 2, 1)) rfl
theorem dX16_digested_77 : decode cX16_digested 77 = .ok (.iconst 0, 1) := dk_get daX16_digested 45 (r := (77, .iconst 0, 1)) rfl
theorem dX16_digested_78 : decode cX16_digested 78 = .ok (.iload_n 3, 1) := dk_get daX16_digested 46 (r := (78, .iload_n 3, 1)) rfl
theorem dX16_digested_79 : decode cX16_digested 79 = .ok (.aload_n 0, 1) := dk_get daX16_digested 47 (r := (79, .aload_n 0, 1)) rfl
theorem dX16_digested_80 : decode cX16_digested 80 = .ok (.getfield 636, 3) := dk_get daX16_digested 48 (r := (80, .getfield 636, 3)) rfl
theorem dX16_digested_83 : decode cX16_digested 83 = .ok (.iconst 0, 1) := dk_get daX16_digested 49 (r := (83, .iconst 0, 1)) rfl
theorem dX16_digested_84 : decode cX16_digested 84 = .ok (.invokevirtual 639, 3) := dk_get daX16_digested 50 (r := (84, .invokevirtual 639, 3)) rfl
theorem dX16_digested_87 : decode cX16_digested 87 = .ok (.goto 15, 3) := dk_get daX16_digested 51 (r := (87, .goto 15, 3)) rfl
theorem dX16_digested_90 : decode cX16_digested 90 = .ok (.aload_n 0, 1) := dk_get daX16_digested 52 (r := (90, .aload_n 0, 1)) rfl
theorem dX16_digested_91 : decode cX16_digested 91 = .ok (.aload_n 2, 1) := dk_get daX16_digested 53 (r := (91, .aload_n 2, 1)) rfl
theorem dX16_digested_92 : decode cX16_digested 92 = .ok (.iconst 0, 1) := dk_get daX16_digested 54 (r := (92, .iconst 0, 1)) rfl
theorem dX16_digested_93 : decode cX16_digested 93 = .ok (.iload_n 3, 1) := dk_get daX16_digested 55 (r := (93, .iload_n 3, 1)) rfl
theorem dX16_digested_94 : decode cX16_digested 94 = .ok (.aload_n 0, 1) := dk_get daX16_digested 56 (r := (94, .aload_n 0, 1)) rfl
theorem dX16_digested_95 : decode cX16_digested 95 = .ok (.getfield 636, 3) := dk_get daX16_digested 57 (r := (95, .getfield 636, 3)) rfl
theorem dX16_digested_98 : decode cX16_digested 98 = .ok (.iconst 0, 1) := dk_get daX16_digested 58 (r := (98, .iconst 0, 1)) rfl
theorem dX16_digested_99 : decode cX16_digested 99 = .ok (.invokevirtual 319, 3) := dk_get daX16_digested 59 (r := (99, .invokevirtual 319, 3)) rfl
theorem dX16_digested_102 : decode cX16_digested 102 = .ok (.aload_n 0, 1) := dk_get daX16_digested 60 (r := (102, .aload_n 0, 1)) rfl
theorem dX16_digested_103 : decode cX16_digested 103 = .ok (.dup, 1) := dk_get daX16_digested 61 (r := (103, .dup, 1)) rfl
theorem dX16_digested_104 : decode cX16_digested 104 = .ok (.getfield 521, 3) := dk_get daX16_digested 62 (r := (104, .getfield 521, 3)) rfl
theorem dX16_digested_107 : decode cX16_digested 107 = .ok (.iconst 1, 1) := dk_get daX16_digested 63 (r := (107, .iconst 1, 1)) rfl
theorem dX16_digested_108 : decode cX16_digested 108 = .ok (.isub, 1) := dk_get daX16_digested 64 (r := (108, .isub, 1)) rfl
theorem dX16_digested_109 : decode cX16_digested 109 = .ok (.putfield 521, 3) := dk_get daX16_digested 65 (r := (109, .putfield 521, 3)) rfl
theorem dX16_digested_112 : decode cX16_digested 112 = .ok (.aload_n 0, 1) := dk_get daX16_digested 66 (r := (112, .aload_n 0, 1)) rfl
theorem dX16_digested_113 : decode cX16_digested 113 = .ok (.aload_n 0, 1) := dk_get daX16_digested 67 (r := (113, .aload_n 0, 1)) rfl
theorem dX16_digested_114 : decode cX16_digested 114 = .ok (.getfield 636, 3) := dk_get daX16_digested 68 (r := (114, .getfield 636, 3)) rfl
theorem dX16_digested_117 : decode cX16_digested 117 = .ok (.iconst 0, 1) := dk_get daX16_digested 69 (r := (117, .iconst 0, 1)) rfl
theorem dX16_digested_118 : decode cX16_digested 118 = .ok (.iload_n 1, 1) := dk_get daX16_digested 70 (r := (118, .iload_n 1, 1)) rfl
theorem dX16_digested_119 : decode cX16_digested 119 = .ok (.sipush 166, 3) := dk_get daX16_digested 71 (r := (119, .sipush 166, 3)) rfl
theorem dX16_digested_122 : decode cX16_digested 122 = .ok (.if_icmp .eq 10, 3) := dk_get daX16_digested 72 (r := (122, .if_icmp .eq 10, 3)) rfl
theorem dX16_digested_125 : decode cX16_digested 125 = .ok (.iload_n 1, 1) := dk_get daX16_digested 73 (r := (125, .iload_n 1, 1)) rfl
theorem dX16_digested_126 : decode cX16_digested 126 = .ok (.sipush 169, 3) := dk_get daX16_digested 74 (r := (126, .sipush 169, 3)) rfl
theorem dX16_digested_129 : decode cX16_digested 129 = .ok (.if_icmp .ne 8, 3) := dk_get daX16_digested 75 (r := (129, .if_icmp .ne 8, 3)) rfl
theorem dX16_digested_132 : decode cX16_digested 132 = .ok (.bipush 20, 2) := dk_get daX16_digested 76 (r := (132, .bipush 20, 2)) rfl
theorem dX16_digested_134 : decode cX16_digested 134 = .ok (.goto 5, 3) := dk_get daX16_digested 77 (r := (134, .goto 5, 3)) rfl
theorem dX16_digested_137 : decode cX16_digested 137 = .ok (.bipush 32, 2) := dk_get daX16_digested 78 (r := (137, .bipush 32, 2)) rfl
theorem dX16_digested_139 : decode cX16_digested 139 = .ok (.invokevirtual 538, 3) := dk_get daX16_digested 79 (r := (139, .invokevirtual 538, 3)) rfl
theorem dX16_digested_142 : decode cX16_digested 142 = .ok (.return_, 1) := dk_get daX16_digested 80 (r := (142, .return_, 1)) rfl
abbrev mX16_without : ks_M := (RX16, cX16_without, 8, none, "without")
def drX16_without : List (Nat × Instr × Nat) := [(0, .iload_n 2, 1), (1, .sipush 255, 3), (4, .if_icmp .le 4, 3), (7, .return_, 1), (8, .iload_n 2, 1), (9, .bipush 76, 2), (11, .if_icmp .ge 7, 3), (14, .iconst 1, 1), (15, .goto 4, 3), (18, .iconst 2, 1), (19, .istore_n 3, 1), (20, .iconst 0, 1), (21, .istore 4, 2), (23, .iconst 0, 1), (24, .istore 5, 2), (26, .iload 4, 2), (28, .aload_n 0, 1), (29, .getfield 642, 3), (32, .if_icmp .ge 163, 3), (35, .iload 4, 2), (37, .iload_n 3, 1), (38, .iadd, 1), (39, .iload_n 2, 1), (40, .iadd, 1), (41, .aload_n 0, 1), (42, .getfield 642, 3), (45, .if_icmp .gt 71, 3), (48, .aload_n 0, 1), (49, .getfield 645, 3), (52, .iload 4, 2), (54, .baload, 1), (55, .sipush 255, 3), (58, .iand, 1), (59, .iload_n 3, 1), (60, .iconst 1, 1), (61, .if_icmp .ne 7, 3), (64, .iload_n 2, 1), (65, .goto 5, 3), (68, .bipush 76, 2), (70, .if_icmp .ne 46, 3), (73, .iload_n 3, 1), (74, .iconst 1, 1), (75, .if_icmp .eq 20, 3), (78, .aload_n 0, 1), (79, .getfield 645, 3), (82, .iload 4, 2), (84, .iconst 1, 1), (85, .iadd, 1), (86, .baload, 1), (87, .sipush 255, 3), (90, .iand, 1), (91, .iload_n 2, 1), (92, .if_icmp .ne 24, 3), (95, .aload_n 0, 1), (96, .getfield 645, 3), (99, .iload 4, 2), (101, .iload_n 3, 1), (102, .iadd, 1), (103, .aload_n 1, 1), (104, .iconst 0, 1), (105, .iload_n 2, 1), (106, .invokestatic 409, 3), (109, .ifCond .eq 7, 3), (112, .iconst 1, 1), (113, .goto 4, 3), (116, .iconst 0, 1), (117, .istore 6, 2), (119, .iload 6, 2), (121, .ifCond .eq 14, 3), (124, .iload 4, 2), (126, .iload_n 3, 1), (127, .iload_n 2, 1), (128, .iadd, 1), (129, .iadd, 1), (130, .istore 4, 2), (132, .goto (-106), 3), (135, .aload_n 0, 1), (136, .aload_n 0, 1), (137, .getfield 645, 3), (140, .iload 4, 2), (142, .aload_n 0, 1), (143, .getfield 642, 3), (146, .invokevirtual 423, 3), (149, .istore 7, 2), (151, .iload 7, 2), (153, .ifCond .ge 9, 3), (156, .aload_n 0, 1), (157, .getfield 642, 3), (160, .istore 7, 2), (162, .iload 4, 2), (164, .iload 7, 2), (166, .if_icmp .ge 26, 3), (169, .aload_n 0, 1), (170, .getfield 648, 3), (173, .iload 5, 2), (175, .aload_n 0, 1), (176, .getfield 645, 3), (179, .iload 4, 2), (181, .baload, 1), (182, .bastore, 1), (183, .iinc 5 1, 3), (186, .iinc 4 1, 3), (189, .goto (-27), 3), (192, .goto (-166), 3), (195, .aload_n 0, 1), (196, .getfield 645, 3), (199, .astore 6, 2), (201, .aload_n 0, 1), (202, .aload_n 0, 1), (203, .getfield 648, 3), (206, .putfield 645, 3), (209, .aload_n 0, 1), (210, .aload 6, 2), (212, .putfield 648, 3), (215, .aload_n 0, 1), (216, .iload 5, 2), (218, .putfield 642, 3), (221, .return_, 1)]
set_option maxRecDepth 100000 in
theorem daX16_without : dk_all cX16_without drX16_without = true := by decide +kernel
theorem dX16_without_0 : decode cX16_without 0 = .ok (.iload_n 2, 1) := dk_get daX16_without 0 (r := (0, .iload_n 2, 1)) rfl
theorem dX16_without_1 : decode cX16_without 1 = .ok (.sipush 255, 3) := dk_get daX16_without 1 (r := (1, .sipush 255, 3)) rfl
theorem dX16_without_4 : decode cX16_without 4 = .ok (.if_icmp .le 4, 3) := dk_get daX16_without 2 (r := (4, .if_icmp .le 4, 3)) rfl
theorem dX16_without_7 : decode cX16_without 7 = .ok (.return_, 1) := dk_get daX16_without 3 (r := (7, .return_, 1)) rfl
theorem dX16_without_8 : decode cX16_without 8 = .ok (.iload_n 2, 1) := dk_get daX16_without 4 (r := (8, .iload_n 2, 1)) rfl
theorem dX16_without_9 : decode cX16_without 9 = .ok (.bipush 76, 2) := dk_get daX16_without 5 (r := (9, .bipush 76, 2)) rfl
theorem dX16_without_11 : decode cX16_without 11 = .ok (.if_icmp .ge 7, 3) := dk_get daX16_without 6 (r := (11, .if_icmp .ge 7, 3)) rfl
theorem dX16_without_14 : decode cX16_without 14 = .ok (.iconst 1, 1) := dk_get daX16_without 7 (r := (14, .iconst 1, 1)) rfl
theorem dX16_without_15 : decode cX16_without 15 = .ok (.goto 4, 3) := dk_get daX16_without 8 (r := (15, .goto 4, 3)) rfl
theorem dX16_without_18 : decode cX16_without 18 = .ok (.iconst 2, 1) := dk_get daX16_without 9 (r := (18, .iconst 2, 1)) rfl
theorem dX16_without_19 : decode cX16_without 19 = .ok (.istore_n 3, 1) := dk_get daX16_without 10 (r := (19, .istore_n 3, 1)) rfl
theorem dX16_without_20 : decode cX16_without 20 = .ok (.iconst 0, 1) := dk_get daX16_without 11 (r := (20, .iconst 0, 1)) rfl
theorem dX16_without_21 : decode cX16_without 21 = .ok (.istore 4, 2) := dk_get daX16_without 12 (r := (21, .istore 4, 2)) rfl
theorem dX16_without_23 : decode cX16_without 23 = .ok (.iconst 0, 1) := dk_get daX16_without 13 (r := (23, .iconst 0, 1)) rfl
theorem dX16_without_24 : decode cX16_without 24 = .ok (.istore 5, 2) := dk_get daX16_without 14 (r := (24, .istore 5, 2)) rfl
theorem dX16_without_26 : decode cX16_without 26 = .ok (.iload 4, 2) := dk_get daX16_without 15 (r := (26, .iload 4, 2)) rfl
theorem dX16_without_28 : decode cX16_without 28 = .ok (.aload_n 0, 1) := dk_get daX16_without 16 (r := (28, .aload_n 0, 1)) rfl
theorem dX16_without_29 : decode cX16_without 29 = .ok (.getfield 642, 3) := dk_get daX16_without 17 (r := (29, .getfield 642, 3)) rfl
theorem dX16_without_32 : decode cX16_without 32 = .ok (.if_icmp .ge 163, 3) := dk_get daX16_without 18 (r := (32, .if_icmp .ge 163, 3)) rfl
theorem dX16_without_35 : decode cX16_without 35 = .ok (.iload 4, 2) := dk_get daX16_without 19 (r := (35, .iload 4, 2)) rfl
theorem dX16_without_37 : decode cX16_without 37 = .ok (.iload_n 3, 1) := dk_get daX16_without 20 (r := (37, .iload_n 3, 1)) rfl
theorem dX16_without_38 : decode cX16_without 38 = .ok (.iadd, 1) := dk_get daX16_without 21 (r := (38, .iadd, 1)) rfl
theorem dX16_without_39 : decode cX16_without 39 = .ok (.iload_n 2, 1) := dk_get daX16_without 22 (r := (39, .iload_n 2, 1)) rfl
theorem dX16_without_40 : decode cX16_without 40 = .ok (.iadd, 1) := dk_get daX16_without 23 (r := (40, .iadd, 1)) rfl
theorem dX16_without_41 : decode cX16_without 41 = .ok (.aload_n 0, 1) := dk_get daX16_without 24 (r := (41, .aload_n 0, 1)) rfl
theorem dX16_without_42 : decode cX16_without 42 = .ok (.getfield 642, 3) := dk_get daX16_without 25 (r := (42, .getfield 642, 3)) rfl
theorem dX16_without_45 : decode cX16_without 45 = .ok (.if_icmp .gt 71, 3) := dk_get daX16_without 26 (r := (45, .if_icmp .gt 71, 3)) rfl
theorem dX16_without_48 : decode cX16_without 48 = .ok (.aload_n 0, 1) := dk_get daX16_without 27 (r := (48, .aload_n 0, 1)) rfl
theorem dX16_without_49 : decode cX16_without 49 = .ok (.getfield 645, 3) := dk_get daX16_without 28 (r := (49, .getfield 645, 3)) rfl
theorem dX16_without_52 : decode cX16_without 52 = .ok (.iload 4, 2) := dk_get daX16_without 29 (r := (52, .iload 4, 2)) rfl
theorem dX16_without_54 : decode cX16_without 54 = .ok (.baload, 1) := dk_get daX16_without 30 (r := (54, .baload, 1)) rfl
theorem dX16_without_55 : decode cX16_without 55 = .ok (.sipush 255, 3) := dk_get daX16_without 31 (r := (55, .sipush 255, 3)) rfl
theorem dX16_without_58 : decode cX16_without 58 = .ok (.iand, 1) := dk_get daX16_without 32 (r := (58, .iand, 1)) rfl
theorem dX16_without_59 : decode cX16_without 59 = .ok (.iload_n 3, 1) := dk_get daX16_without 33 (r := (59, .iload_n 3, 1)) rfl
theorem dX16_without_60 : decode cX16_without 60 = .ok (.iconst 1, 1) := dk_get daX16_without 34 (r := (60, .iconst 1, 1)) rfl
theorem dX16_without_61 : decode cX16_without 61 = .ok (.if_icmp .ne 7, 3) := dk_get daX16_without 35 (r := (61, .if_icmp .ne 7, 3)) rfl
theorem dX16_without_64 : decode cX16_without 64 = .ok (.iload_n 2, 1) := dk_get daX16_without 36 (r := (64, .iload_n 2, 1)) rfl
theorem dX16_without_65 : decode cX16_without 65 = .ok (.goto 5, 3) := dk_get daX16_without 37 (r := (65, .goto 5, 3)) rfl
theorem dX16_without_68 : decode cX16_without 68 = .ok (.bipush 76, 2) := dk_get daX16_without 38 (r := (68, .bipush 76, 2)) rfl
theorem dX16_without_70 : decode cX16_without 70 = .ok (.if_icmp .ne 46, 3) := dk_get daX16_without 39 (r := (70, .if_icmp .ne 46, 3)) rfl
theorem dX16_without_73 : decode cX16_without 73 = .ok (.iload_n 3, 1) := dk_get daX16_without 40 (r := (73, .iload_n 3, 1)) rfl
theorem dX16_without_74 : decode cX16_without 74 = .ok (.iconst 1, 1) := dk_get daX16_without 41 (r := (74, .iconst 1, 1)) rfl
theorem dX16_without_75 : decode cX16_without 75 = .ok (.if_icmp .eq 20, 3) := dk_get daX16_without 42 (r := (75, .if_icmp .eq 20, 3)) rfl
theorem dX16_without_78 : decode cX16_without 78 = .ok (.aload_n 0, 1) := dk_get daX16_without 43 (r := (78, .aload_n 0, 1)) rfl
theorem dX16_without_79 : decode cX16_without 79 = .ok (.getfield 645, 3) := dk_get daX16_without 44 (r := (79, .getfield 645, 3)) rfl
theorem dX16_without_82 : decode cX16_without 82 = .ok (.iload 4, 2) := dk_get daX16_without 45 (r := (82, .iload 4, 2)) rfl
theorem dX16_without_84 : decode cX16_without 84 = .ok (.iconst 1, 1) := dk_get daX16_without 46 (r := (84, .iconst 1, 1)) rfl
theorem dX16_without_85 : decode cX16_without 85 = .ok (.iadd, 1) := dk_get daX16_without 47 (r := (85, .iadd, 1)) rfl
theorem dX16_without_86 : decode cX16_without 86 = .ok (.baload, 1) := dk_get daX16_without 48 (r := (86, .baload, 1)) rfl
theorem dX16_without_87 : decode cX16_without 87 = .ok (.sipush 255, 3) := dk_get daX16_without 49 (r := (87, .sipush 255, 3)) rfl
theorem dX16_without_90 : decode cX16_without 90 = .ok (.iand, 1) := dk_get daX16_without 50 (r := (90, .iand, 1)) rfl
theorem dX16_without_91 : decode cX16_without 91 = .ok (.iload_n 2, 1) := dk_get daX16_without 51 (r := (91, .iload_n 2, 1)) rfl
theorem dX16_without_92 : decode cX16_without 92 = .ok (.if_icmp .ne 24, 3) := dk_get daX16_without 52 (r := (92, .if_icmp .ne 24, 3)) rfl
theorem dX16_without_95 : decode cX16_without 95 = .ok (.aload_n 0, 1) := dk_get daX16_without 53 (r := (95, .aload_n 0, 1)) rfl
theorem dX16_without_96 : decode cX16_without 96 = .ok (.getfield 645, 3) := dk_get daX16_without 54 (r := (96, .getfield 645, 3)) rfl
theorem dX16_without_99 : decode cX16_without 99 = .ok (.iload 4, 2) := dk_get daX16_without 55 (r := (99, .iload 4, 2)) rfl
theorem dX16_without_101 : decode cX16_without 101 = .ok (.iload_n 3, 1) := dk_get daX16_without 56 (r := (101, .iload_n 3, 1)) rfl
theorem dX16_without_102 : decode cX16_without 102 = .ok (.iadd, 1) := dk_get daX16_without 57 (r := (102, .iadd, 1)) rfl
theorem dX16_without_103 : decode cX16_without 103 = .ok (.aload_n 1, 1) := dk_get daX16_without 58 (r := (103, .aload_n 1, 1)) rfl
theorem dX16_without_104 : decode cX16_without 104 = .ok (.iconst 0, 1) := dk_get daX16_without 59 (r := (104, .iconst 0, 1)) rfl
theorem dX16_without_105 : decode cX16_without 105 = .ok (.iload_n 2, 1) := dk_get daX16_without 60 (r := (105, .iload_n 2, 1)) rfl
theorem dX16_without_106 : decode cX16_without 106 = .ok (.invokestatic 409, 3) := dk_get daX16_without 61 (r := (106, .invokestatic 409, 3)) rfl
theorem dX16_without_109 : decode cX16_without 109 = .ok (.ifCond .eq 7, 3) := dk_get daX16_without 62 (r := (109, .ifCond .eq 7, 3)) rfl
theorem dX16_without_112 : decode cX16_without 112 = .ok (.iconst 1, 1) := dk_get daX16_without 63 (r := (112, .iconst 1, 1)) rfl
theorem dX16_without_113 : decode cX16_without 113 = .ok (.goto 4, 3) := dk_get daX16_without 64 (r := (113, .goto 4, 3)) rfl
theorem dX16_without_116 : decode cX16_without 116 = .ok (.iconst 0, 1) := dk_get daX16_without 65 (r := (116, .iconst 0, 1)) rfl
theorem dX16_without_117 : decode cX16_without 117 = .ok (.istore 6, 2) := dk_get daX16_without 66 (r := (117, .istore 6, 2)) rfl
theorem dX16_without_119 : decode cX16_without 119 = .ok (.iload 6, 2) := dk_get daX16_without 67 (r := (119, .iload 6, 2)) rfl
theorem dX16_without_121 : decode cX16_without 121 = .ok (.ifCond .eq 14, 3) := dk_get daX16_without 68 (r := (121, .ifCond .eq 14, 3)) rfl
theorem dX16_without_124 : decode cX16_without 124 = .ok (.iload 4, 2) := dk_get daX16_without 69 (r := (124, .iload 4, 2)) rfl
theorem dX16_without_126 : decode cX16_without 126 = .ok (.iload_n 3, 1) := dk_get daX16_without 70 (r := (126, .iload_n 3, 1)) rfl
theorem dX16_without_127 : decode cX16_without 127 = .ok (.iload_n 2, 1) := dk_get daX16_without 71 (r := (127, .iload_n 2, 1)) rfl
theorem dX16_without_128 : decode cX16_without 128 = .ok (.iadd, 1) := dk_get daX16_without 72 (r := (128, .iadd, 1)) rfl
theorem dX16_without_129 : decode cX16_without 129 = .ok (.iadd, 1) := dk_get daX16_without 73 (r := (129, .iadd, 1)) rfl
theorem dX16_without_130 : decode cX16_without 130 = .ok (.istore 4, 2) := dk_get daX16_without 74 (r := (130, .istore 4, 2)) rfl
theorem dX16_without_132 : decode cX16_without 132 = .ok (.goto (-106), 3) := dk_get daX16_without 75 (r := (132, .goto (-106), 3)) rfl
theorem dX16_without_135 : decode cX16_without 135 = .ok (.aload_n 0, 1) := dk_get daX16_without 76 (r := (135, .aload_n 0, 1)) rfl
theorem dX16_without_136 : decode cX16_without 136 = .ok (.aload_n 0, 1) := dk_get daX16_without 77 (r := (136, .aload_n 0, 1)) rfl
theorem dX16_without_137 : decode cX16_without 137 = .ok (.getfield 645, 3) := dk_get daX16_without 78 (r := (137, .getfield 645, 3)) rfl
theorem dX16_without_140 : decode cX16_without 140 = .ok (.iload 4, 2) := dk_get daX16_without 79 (r := (140, .iload 4, 2)) rfl
theorem dX16_without_142 : decode cX16_without 142 = .ok (.aload_n 0, 1) := dk_get daX16_without 80 (r := (142, .aload_n 0, 1)) rfl
theorem dX16_without_143 : decode cX16_without 143 = .ok (.getfield 642, 3) := dk_get daX16_without 81 (r := (143, .getfield 642, 3)) rfl
theorem dX16_without_146 : decode cX16_without 146 = .ok (.invokevirtual 423, 3) := dk_get daX16_without 82 (r := (146, .invokevirtual 423, 3)) rfl
theorem dX16_without_149 : decode cX16_without 149 = .ok (.istore 7, 2) := dk_get daX16_without 83 (r := (149, .istore 7, 2)) rfl
theorem dX16_without_151 : decode cX16_without 151 = .ok (.iload 7, 2) := dk_get daX16_without 84 (r := (151, .iload 7, 2)) rfl
theorem dX16_without_153 : decode cX16_without 153 = .ok (.ifCond .ge 9, 3) := dk_get daX16_without 85 (r := (153, .ifCond .ge 9, 3)) rfl
theorem dX16_without_156 : decode cX16_without 156 = .ok (.aload_n 0, 1) := dk_get daX16_without 86 (r := (156, .aload_n 0, 1)) rfl
theorem dX16_without_157 : decode cX16_without 157 = .ok (.getfield 642, 3) := dk_get daX16_without 87 (r := (157, .getfield 642, 3)) rfl
theorem dX16_without_160 : decode cX16_without 160 = .ok (.istore 7, 2) := dk_get daX16_without 88 (r := (160, .istore 7, 2)) rfl
theorem dX16_without_162 : decode cX16_without 162 = .ok (.iload 4, 2) := dk_get daX16_without 89 (r := (162, .iload 4, 2)) rfl
theorem dX16_without_164 : decode cX16_without 164 = .ok (.iload 7, 2) := dk_get daX16_without 90 (r := (164, .iload 7, 2)) rfl
theorem dX16_without_166 : decode cX16_without 166 = .ok (.if_icmp .ge 26, 3) := dk_get daX16_without 91 (r := (166, .if_icmp .ge 26, 3)) rfl
theorem dX16_without_169 : decode cX16_without 169 = .ok (.aload_n 0, 1) := dk_get daX16_without 92 (r := (169, .aload_n 0, 1)) rfl
theorem dX16_without_170 : decode cX16_without 170 = .ok (.getfield 648, 3) := dk_get daX16_without 93 (r := (170, .getfield 648, 3)) rfl
theorem dX16_without_173 : decode cX16_without 173 = .ok (.iload 5, 2) := dk_get daX16_without 94 (r := (173, .iload 5, 2)) rfl
theorem dX16_without_175 : decode cX16_without 175 = .ok (.aload_n 0, 1) := dk_get daX16_without 95 (r := (175, .aload_n 0, 1)) rfl
theorem dX16_without_176 : decode cX16_without 176 = .ok (.getfield 645, 3) := dk_get daX16_without 96 (r := (176, .getfield 645, 3)) rfl
theorem dX16_without_179 : decode cX16_without 179 = .ok (.iload 4, 2) := dk_get daX16_without 97 (r := (179, .iload 4, 2)) rfl
theorem dX16_without_181 : decode cX16_without 181 = .ok (.baload, 1) := dk_get daX16_without 98 (r := (181, .baload, 1)) rfl
theorem dX16_without_182 : decode cX16_without 182 = .ok (.bastore, 1) := dk_get daX16_without 99 (r := (182, .bastore, 1)) rfl
theorem dX16_without_183 : decode cX16_without 183 = .ok (.iinc 5 1, 3) := dk_get daX16_without 100 (r := (183, .iinc 5 1, 3)) rfl
theorem dX16_without_186 : decode cX16_without 186 = .ok (.iinc 4 1, 3) := dk_get daX16_without 101 (r := (186, .iinc 4 1, 3)) rfl
theorem dX16_without_189 : decode cX16_without 189 = .ok (.goto (-27), 3) := dk_get daX16_without 102 (r := (189, .goto (-27), 3)) rfl
theorem dX16_without_192 : decode cX16_without 192 = .ok (.goto (-166), 3) := dk_get daX16_without 103 (r := (192, .goto (-166), 3)) rfl
theorem dX16_without_195 : decode cX16_without 195 = .ok (.aload_n 0, 1) := dk_get daX16_without 104 (r := (195, .aload_n 0, 1)) rfl
theorem dX16_without_196 : decode cX16_without 196 = .ok (.getfield 645, 3) := dk_get daX16_without 105 (r := (196, .getfield 645, 3)) rfl
theorem dX16_without_199 : decode cX16_without 199 = .ok (.astore 6, 2) := dk_get daX16_without 106 (r := (199, .astore 6, 2)) rfl
theorem dX16_without_201 : decode cX16_without 201 = .ok (.aload_n 0, 1) := dk_get daX16_without 107 (r := (201, .aload_n 0, 1)) rfl
theorem dX16_without_202 : decode cX16_without 202 = .ok (.aload_n 0, 1) := dk_get daX16_without 108 (r := (202, .aload_n 0, 1)) rfl
theorem dX16_without_203 : decode cX16_without 203 = .ok (.getfield 648, 3) := dk_get daX16_without 109 (r := (203, .getfield 648, 3)) rfl
theorem dX16_without_206 : decode cX16_without 206 = .ok (.putfield 645, 3) := dk_get daX16_without 110 (r := (206, .putfield 645, 3)) rfl
theorem dX16_without_209 : decode cX16_without 209 = .ok (.aload_n 0, 1) := dk_get daX16_without 111 (r := (209, .aload_n 0, 1)) rfl
theorem dX16_without_210 : decode cX16_without 210 = .ok (.aload 6, 2) := dk_get daX16_without 112 (r := (210, .aload 6, 2)) rfl
theorem dX16_without_212 : decode cX16_without 212 = .ok (.putfield 648, 3) := dk_get daX16_without 113 (r := (212, .putfield 648, 3)) rfl
theorem dX16_without_215 : decode cX16_without 215 = .ok (.aload_n 0, 1) := dk_get daX16_without 114 (r := (215, .aload_n 0, 1)) rfl
theorem dX16_without_216 : decode cX16_without 216 = .ok (.iload 5, 2) := dk_get daX16_without 115 (r := (216, .iload 5, 2)) rfl
theorem dX16_without_218 : decode cX16_without 218 = .ok (.putfield 642, 3) := dk_get daX16_without 116 (r := (218, .putfield 642, 3)) rfl
theorem dX16_without_221 : decode cX16_without 221 = .ok (.return_, 1) := dk_get daX16_without 117 (r := (221, .return_, 1)) rfl
abbrev mX16_load : ks_M := (RX16, cX16_load, 5, none, "load")
def drX16_load : List (Nat × Instr × Nat) := [(0, .iconst 0, 1), (1, .istore 4, 2), (3, .iload 4, 2), (5, .iload_n 3, 1), (6, .if_icmp .ge 22, 3), (9, .aload_n 0, 1), (10, .getfield 645, 3), (13, .iload 4, 2), (15, .aload_n 1, 1), (16, .iload_n 2, 1), (17, .iload 4, 2), (19, .iadd, 1), (20, .baload, 1), (21, .bastore, 1), (22, .iinc 4 1, 3), (25, .goto (-22), 3), (28, .aload_n 0, 1), (29, .iload_n 3, 1), (30, .putfield 642, 3), (33, .return_, 1)]
set_option maxRecDepth 100000 in
theorem daX16_load : dk_all cX16_load drX16_load = true := by decide +kernel
theorem dX16_load_0 : decode cX16_load 0 = .ok (.iconst 0, 1) := dk_get daX16_load 0 (r := (0, .iconst 0, 1)) rfl
theorem dX16_load_1 : decode cX16_load 1 = .ok (.istore 4, 2) := dk_get daX16_load 1 (r := (1, .istore 4, 2)) rfl
theorem dX16_load_3 : decode cX16_load 3 = .ok (.iload 4, 2) := dk_get daX16_load 2 (r := (3, .iload 4, 2)) rfl
theorem dX16_load_5 : decode cX16_load 5 = .ok (.iload_n 3, 1) := dk_get daX16_load 3 (r := (5, .iload_n 3, 1)) rfl
theorem dX16_load_6 : decode cX16_load 6 = .ok (.if_icmp .ge 22, 3) := dk_get daX16_load 4 (r := (6, .if_icmp .ge 22, 3)) rfl
theorem dX16_load_9 : decode cX16_load 9 = .ok (.aload_n 0, 1) := dk_get daX16_load 5 (r := (9, .aload_n 0, 1)) rfl
theorem dX16_load_10 : decode cX16_load 10 = .ok (.getfield 645, 3) := dk_get daX16_load 6 (r := (10, .getfield 645, 3)) rfl
theorem dX16_load_13 : decode cX16_load 13 = .ok (.iload 4, 2) := dk_get daX16_load 7 (r := (13, .iload 4, 2)) rfl
theorem dX16_load_15 : decode cX16_load 15 = .ok (.aload_n 1, 1) := dk_get daX16_load 8 (r := (15, .aload_n 1, 1)) rfl
theorem dX16_load_16 : decode cX16_load 16 = .ok (.iload_n 2, 1) := dk_get daX16_load 9 (r := (16, .iload_n 2, 1)) rfl
theorem dX16_load_17 : decode cX16_load 17 = .ok (.iload 4, 2) := dk_get daX16_load 10 (r := (17, .iload 4, 2)) rfl
theorem dX16_load_19 : decode cX16_load 19 = .ok (.iadd, 1) := dk_get daX16_load 11 (r := (19, .iadd, 1)) rfl
theorem dX16_load_20 : decode cX16_load 20 = .ok (.baload, 1) := dk_get daX16_load 12 (r := (20, .baload, 1)) rfl
theorem dX16_load_21 : decode cX16_load 21 = .ok (.bastore, 1) := dk_get daX16_load 13 (r := (21, .bastore, 1)) rfl
theorem dX16_load_22 : decode cX16_load 22 = .ok (.iinc 4 1, 3) := dk_get daX16_load 14 (r := (22, .iinc 4 1, 3)) rfl
theorem dX16_load_25 : decode cX16_load 25 = .ok (.goto (-22), 3) := dk_get daX16_load 15 (r := (25, .goto (-22), 3)) rfl
theorem dX16_load_28 : decode cX16_load 28 = .ok (.aload_n 0, 1) := dk_get daX16_load 16 (r := (28, .aload_n 0, 1)) rfl
theorem dX16_load_29 : decode cX16_load 29 = .ok (.iload_n 3, 1) := dk_get daX16_load 17 (r := (29, .iload_n 3, 1)) rfl
theorem dX16_load_30 : decode cX16_load 30 = .ok (.putfield 642, 3) := dk_get daX16_load 18 (r := (30, .putfield 642, 3)) rfl
theorem dX16_load_33 : decode cX16_load 33 = .ok (.return_, 1) := dk_get daX16_load 19 (r := (33, .return_, 1)) rfl
abbrev mX16_unmarked : ks_M := (RX16, cX16_unmarked, 5, none, "unmarked")
def drX16_unmarked : List (Nat × Instr × Nat) := [(0, .iconst 0, 1), (1, .istore_n 1, 1), (2, .iconst 0, 1), (3, .istore_n 2, 1), (4, .iload_n 1, 1), (5, .aload_n 0, 1), (6, .getfield 642, 3), (9, .if_icmp .ge 86, 3), (12, .aload_n 0, 1), (13, .aload_n 0, 1), (14, .getfield 645, 3), (17, .iload_n 1, 1), (18, .aload_n 0, 1), (19, .getfield 642, 3), (22, .invokevirtual 423, 3), (25, .istore_n 3, 1), (26, .iload_n 3, 1), (27, .ifCond .ge 8, 3), (30, .aload_n 0, 1), (31, .getfield 642, 3), (34, .istore_n 3, 1), (35, .aload_n 0, 1), (36, .getfield 645, 3), (39, .iload_n 1, 1), (40, .baload, 1), (41, .sipush 255, 3), (44, .iand, 1), (45, .sipush 171, 3), (48, .if_icmp .ne 7, 3), (51, .iconst 1, 1), (52, .goto 4, 3), (55, .iconst 0, 1), (56, .istore 4, 2), (58, .iload_n 1, 1), (59, .iload_n 3, 1), (60, .if_icmp .ge 32, 3), (63, .iload 4, 2), (65, .ifCond .eq 6, 3), (68, .goto 18, 3), (71, .aload_n 0, 1), (72, .getfield 648, 3), (75, .iload_n 2, 1), (76, .aload_n 0, 1), (77, .getfield 645, 3), (80, .iload_n 1, 1), (81, .baload, 1), (82, .bastore, 1), (83, .iinc 2 1, 3), (86, .iinc 1 1, 3), (89, .goto (-31), 3), (92, .goto (-88), 3), (95, .aload_n 0, 1), (96, .getfield 645, 3), (99, .astore_n 3, 1), (100, .aload_n 0, 1), (101, .aload_n 0, 1), (102, .getfield 648, 3), (105, .putfield 645, 3), (108, .aload_n 0, 1), (109, .aload_n 3, 1), (110, .putfield 648, 3), (113, .aload_n 0, 1), (114, .iload_n 2, 1), (115, .putfield 642, 3), (118, .return_, 1)]
set_option maxRecDepth 100000 in
theorem daX16_unmarked : dk_all cX16_unmarked drX16_unmarked = true := by decide +kernel
theorem dX16_unmarked_0 : decode cX16_unmarked 0 = .ok (.iconst 0, 1) := dk_get daX16_unmarked 0 (r := (0, .iconst 0, 1)) rfl
theorem dX16_unmarked_1 : decode cX16_unmarked 1 = .ok (.istore_n 1, 1) := dk_get daX16_unmarked 1 (r := (1, .istore_n 1, 1)) rfl
theorem dX16_unmarked_2 : decode cX16_unmarked 2 = .ok (.iconst 0, 1) := dk_get daX16_unmarked 2 (r := (2, .iconst 0, 1)) rfl
theorem dX16_unmarked_3 : decode cX16_unmarked 3 = .ok (.istore_n 2, 1) := dk_get daX16_unmarked 3 (r := (3, .istore_n 2, 1)) rfl
theorem dX16_unmarked_4 : decode cX16_unmarked 4 = .ok (.iload_n 1, 1) := dk_get daX16_unmarked 4 (r := (4, .iload_n 1, 1)) rfl
theorem dX16_unmarked_5 : decode cX16_unmarked 5 = .ok (.aload_n 0, 1) := dk_get daX16_unmarked 5 (r := (5, .aload_n 0, 1)) rfl
theorem dX16_unmarked_6 : decode cX16_unmarked 6 = .ok (.getfield 642, 3) := dk_get daX16_unmarked 6 (r := (6, .getfield 642, 3)) rfl
theorem dX16_unmarked_9 : decode cX16_unmarked 9 = .ok (.if_icmp .ge 86, 3) := dk_get daX16_unmarked 7 (r := (9, .if_icmp .ge 86, 3)) rfl
theorem dX16_unmarked_12 : decode cX16_unmarked 12 = .ok (.aload_n 0, 1) := dk_get daX16_unmarked 8 (r := (12, .aload_n 0, 1)) rfl
theorem dX16_unmarked_13 : decode cX16_unmarked 13 = .ok (.aload_n 0, 1) := dk_get daX16_unmarked 9 (r := (13, .aload_n 0, 1)) rfl
theorem dX16_unmarked_14 : decode cX16_unmarked 14 = .ok (.getfield 645, 3) := dk_get daX16_unmarked 10 (r := (14, .getfield 645, 3)) rfl
theorem dX16_unmarked_17 : decode cX16_unmarked 17 = .ok (.iload_n 1, 1) := dk_get daX16_unmarked 11 (r := (17, .iload_n 1, 1)) rfl
theorem dX16_unmarked_18 : decode cX16_unmarked 18 = .ok (.aload_n 0, 1) := dk_get daX16_unmarked 12 (r := (18, .aload_n 0, 1)) rfl
theorem dX16_unmarked_19 : decode cX16_unmarked 19 = .ok (.getfield 642, 3) := dk_get daX16_unmarked 13 (r := (19, .getfield 642, 3)) rfl
theorem dX16_unmarked_22 : decode cX16_unmarked 22 = .ok (.invokevirtual 423, 3) := dk_get daX16_unmarked 14 (r := (22, .invokevirtual 423, 3)) rfl
theorem dX16_unmarked_25 : decode cX16_unmarked 25 = .ok (.istore_n 3, 1) := dk_get daX16_unmarked 15 (r := (25, .istore_n 3, 1)) rfl
theorem dX16_unmarked_26 : decode cX16_unmarked 26 = .ok (.iload_n 3, 1) := dk_get daX16_unmarked 16 (r := (26, .iload_n 3, 1)) rfl
theorem dX16_unmarked_27 : decode cX16_unmarked 27 = .ok (.ifCond .ge 8, 3) := dk_get daX16_unmarked 17 (r := (27, .ifCond .ge 8, 3)) rfl
theorem dX16_unmarked_30 : decode cX16_unmarked 30 = .ok (.aload_n 0, 1) := dk_get daX16_unmarked 18 (r := (30, .aload_n 0, 1)) rfl
theorem dX16_unmarked_31 : decode cX16_unmarked 31 = .ok (.getfield 642, 3) := dk_get daX16_unmarked 19 (r := (31, .getfield 642, 3)) rfl
theorem dX16_unmarked_34 : decode cX16_unmarked 34 = .ok (.istore_n 3, 1) := dk_get daX16_unmarked 20 (r := (34, .istore_n 3, 1)) rfl
theorem dX16_unmarked_35 : decode cX16_unmarked 35 = .ok (.aload_n 0, 1) := dk_get daX16_unmarked 21 (r := (35, .aload_n 0, 1)) rfl
theorem dX16_unmarked_36 : decode cX16_unmarked 36 = .ok (.getfield 645, 3) := dk_get daX16_unmarked 22 (r := (36, .getfield 645, 3)) rfl
theorem dX16_unmarked_39 : decode cX16_unmarked 39 = .ok (.iload_n 1, 1) := dk_get daX16_unmarked 23 (r := (39, .iload_n 1, 1)) rfl
theorem dX16_unmarked_40 : decode cX16_unmarked 40 = .ok (.baload, 1) := dk_get daX16_unmarked 24 (r := (40, .baload, 1)) rfl
theorem dX16_unmarked_41 : decode cX16_unmarked 41 = .ok (.sipush 255, 3) := dk_get daX16_unmarked 25 (r := (41, .sipush 255, 3)) rfl
theorem dX16_unmarked_44 : decode cX16_unmarked 44 = .ok (.iand, 1) := dk_get daX16_unmarked 26 (r := (44, .iand, 1)) rfl
theorem dX16_unmarked_45 : decode cX16_unmarked 45 = .ok (.sipush 171, 3) := dk_get daX16_unmarked 27 (r := (45, .sipush 171, 3)) rfl
theorem dX16_unmarked_48 : decode cX16_unmarked 48 = .ok (.if_icmp .ne 7, 3) := dk_get daX16_unmarked 28 (r := (48, .if_icmp .ne 7, 3)) rfl
theorem dX16_unmarked_51 : decode cX16_unmarked 51 = .ok (.iconst 1, 1) := dk_get daX16_unmarked 29 (r := (51, .iconst 1, 1)) rfl
theorem dX16_unmarked_52 : decode cX16_unmarked 52 = .ok (.goto 4, 3) := dk_get daX16_unmarked 30 (r := (52, .goto 4, 3)) rfl
theorem dX16_unmarked_55 : decode cX16_unmarked 55 = .ok (.iconst 0, 1) := dk_get daX16_unmarked 31 (r := (55, .iconst 0, 1)) rfl
theorem dX16_unmarked_56 : decode cX16_unmarked 56 = .ok (.istore 4, 2) := dk_get daX16_unmarked 32 (r := (56, .istore 4, 2)) rfl
theorem dX16_unmarked_58 : decode cX16_unmarked 58 = .ok (.iload_n 1, 1) := dk_get daX16_unmarked 33 (r := (58, .iload_n 1, 1)) rfl
theorem dX16_unmarked_59 : decode cX16_unmarked 59 = .ok (.iload_n 3, 1) := dk_get daX16_unmarked 34 (r := (59, .iload_n 3, 1)) rfl
theorem dX16_unmarked_60 : decode cX16_unmarked 60 = .ok (.if_icmp .ge 32, 3) := dk_get daX16_unmarked 35 (r := (60, .if_icmp .ge 32, 3)) rfl
theorem dX16_unmarked_63 : decode cX16_unmarked 63 = .ok (.iload 4, 2) := dk_get daX16_unmarked 36 (r := (63, .iload 4, 2)) rfl
theorem dX16_unmarked_65 : decode cX16_unmarked 65 = .ok (.ifCond .eq 6, 3) := dk_get daX16_unmarked 37 (r := (65, .ifCond .eq 6, 3)) rfl
theorem dX16_unmarked_68 : decode cX16_unmarked 68 = .ok (.goto 18, 3) := dk_get daX16_unmarked 38 (r := (68, .goto 18, 3)) rfl
theorem dX16_unmarked_71 : decode cX16_unmarked 71 = .ok (.aload_n 0, 1) := dk_get daX16_unmarked 39 (r := (71, .aload_n 0, 1)) rfl
theorem dX16_unmarked_72 : decode cX16_unmarked 72 = .ok (.getfield 648, 3) := dk_get daX16_unmarked 40 (r := (72, .getfield 648, 3)) rfl
theorem dX16_unmarked_75 : decode cX16_unmarked 75 = .ok (.iload_n 2, 1) := dk_get daX16_unmarked 41 (r := (75, .iload_n 2, 1)) rfl
theorem dX16_unmarked_76 : decode cX16_unmarked 76 = .ok (.aload_n 0, 1) := dk_get daX16_unmarked 42 (r := (76, .aload_n 0, 1)) rfl
theorem dX16_unmarked_77 : decode cX16_unmarked 77 = .ok (.getfield 645, 3) := dk_get daX16_unmarked 43 (r := (77, .getfield 645, 3)) rfl
theorem dX16_unmarked_80 : decode cX16_unmarked 80 = .ok (.iload_n 1, 1) := dk_get daX16_unmarked 44 (r := (80, .iload_n 1, 1)) rfl
theorem dX16_unmarked_81 : decode cX16_unmarked 81 = .ok (.baload, 1) := dk_get daX16_unmarked 45 (r := (81, .baload, 1)) rfl
theorem dX16_unmarked_82 : decode cX16_unmarked 82 = .ok (.bastore, 1) := dk_get daX16_unmarked 46 (r := (82, .bastore, 1)) rfl
theorem dX16_unmarked_83 : decode cX16_unmarked 83 = .ok (.iinc 2 1, 3) := dk_get daX16_unmarked 47 (r := (83, .iinc 2 1, 3)) rfl
theorem dX16_unmarked_86 : decode cX16_unmarked 86 = .ok (.iinc 1 1, 3) := dk_get daX16_unmarked 48 (r := (86, .iinc 1 1, 3)) rfl
theorem dX16_unmarked_89 : decode cX16_unmarked 89 = .ok (.goto (-31), 3) := dk_get daX16_unmarked 49 (r := (89, .goto (-31), 3)) rfl
theorem dX16_unmarked_92 : decode cX16_unmarked 92 = .ok (.goto (-88), 3) := dk_get daX16_unmarked 50 (r := (92, .goto (-88), 3)) rfl
theorem dX16_unmarked_95 : decode cX16_unmarked 95 = .ok (.aload_n 0, 1) := dk_get daX16_unmarked 51 (r := (95, .aload_n 0, 1)) rfl
theorem dX16_unmarked_96 : decode cX16_unmarked 96 = .ok (.getfield 645, 3) := dk_get daX16_unmarked 52 (r := (96, .getfield 645, 3)) rfl
theorem dX16_unmarked_99 : decode cX16_unmarked 99 = .ok (.astore_n 3, 1) := dk_get daX16_unmarked 53 (r := (99, .astore_n 3, 1)) rfl
theorem dX16_unmarked_100 : decode cX16_unmarked 100 = .ok (.aload_n 0, 1) := dk_get daX16_unmarked 54 (r := (100, .aload_n 0, 1)) rfl
theorem dX16_unmarked_101 : decode cX16_unmarked 101 = .ok (.aload_n 0, 1) := dk_get daX16_unmarked 55 (r := (101, .aload_n 0, 1)) rfl
theorem dX16_unmarked_102 : decode cX16_unmarked 102 = .ok (.getfield 648, 3) := dk_get daX16_unmarked 56 (r := (102, .getfield 648, 3)) rfl
theorem dX16_unmarked_105 : decode cX16_unmarked 105 = .ok (.putfield 645, 3) := dk_get daX16_unmarked 57 (r := (105, .putfield 645, 3)) rfl
theorem dX16_unmarked_108 : decode cX16_unmarked 108 = .ok (.aload_n 0, 1) := dk_get daX16_unmarked 58 (r := (108, .aload_n 0, 1)) rfl
theorem dX16_unmarked_109 : decode cX16_unmarked 109 = .ok (.aload_n 3, 1) := dk_get daX16_unmarked 59 (r := (109, .aload_n 3, 1)) rfl
theorem dX16_unmarked_110 : decode cX16_unmarked 110 = .ok (.putfield 648, 3) := dk_get daX16_unmarked 60 (r := (110, .putfield 648, 3)) rfl
theorem dX16_unmarked_113 : decode cX16_unmarked 113 = .ok (.aload_n 0, 1) := dk_get daX16_unmarked 61 (r := (113, .aload_n 0, 1)) rfl
theorem dX16_unmarked_114 : decode cX16_unmarked 114 = .ok (.iload_n 2, 1) := dk_get daX16_unmarked 62 (r := (114, .iload_n 2, 1)) rfl
theorem dX16_unmarked_115 : decode cX16_unmarked 115 = .ok (.putfield 642, 3) := dk_get daX16_unmarked 63 (r := (115, .putfield 642, 3)) rfl
theorem dX16_unmarked_118 : decode cX16_unmarked 118 = .ok (.return_, 1) := dk_get daX16_unmarked 64 (r := (118, .return_, 1)) rfl
abbrev mX16_lay : ks_M := (RX16, cX16_lay, 5, none, "lay")
def drX16_lay : List (Nat × Instr × Nat) := [(0, .iconst 0, 1), (1, .istore 4, 2), (3, .iload 4, 2), (5, .iload_n 3, 1), (6, .if_icmp .ge 37, 3), (9, .aload_n 0, 1), (10, .getfield 650, 3), (13, .aload_n 0, 1), (14, .getfield 653, 3), (17, .lload_n 1, 1), (18, .bipush 8, 2), (20, .iload 4, 2), (22, .imul, 1), (23, .lushr, 1), (24, .l2i, 1), (25, .i2b, 1), (26, .bastore, 1), (27, .aload_n 0, 1), (28, .dup, 1), (29, .getfield 653, 3), (32, .iconst 1, 1), (33, .iadd, 1), (34, .putfield 653, 3), (37, .iinc 4 1, 3), (40, .goto (-37), 3), (43, .return_, 1)]
set_option maxRecDepth 100000 in
theorem daX16_lay : dk_all cX16_lay drX16_lay = true := by decide +kernel
theorem dX16_lay_0 : decode cX16_lay 0 = .ok (.iconst 0, 1) := dk_get daX16_lay 0 (r := (0, .iconst 0, 1)) rfl
theorem dX16_lay_1 : decode cX16_lay 1 = .ok (.istore 4, 2) := dk_get daX16_lay 1 (r := (1, .istore 4, 2)) rfl
theorem dX16_lay_3 : decode cX16_lay 3 = .ok (.iload 4, 2) := dk_get daX16_lay 2 (r := (3, .iload 4, 2)) rfl
theorem dX16_lay_5 : decode cX16_lay 5 = .ok (.iload_n 3, 1) := dk_get daX16_lay 3 (r := (5, .iload_n 3, 1)) rfl
theorem dX16_lay_6 : decode cX16_lay 6 = .ok (.if_icmp .ge 37, 3) := dk_get daX16_lay 4 (r := (6, .if_icmp .ge 37, 3)) rfl
theorem dX16_lay_9 : decode cX16_lay 9 = .ok (.aload_n 0, 1) := dk_get daX16_lay 5 (r := (9, .aload_n 0, 1)) rfl
theorem dX16_lay_10 : decode cX16_lay 10 = .ok (.getfield 650, 3) := dk_get daX16_lay 6 (r := (10, .getfield 650, 3)) rfl
theorem dX16_lay_13 : decode cX16_lay 13 = .ok (.aload_n 0, 1) := dk_get daX16_lay 7 (r := (13, .aload_n 0, 1)) rfl
theorem dX16_lay_14 : decode cX16_lay 14 = .ok (.getfield 653, 3) := dk_get daX16_lay 8 (r := (14, .getfield 653, 3)) rfl
theorem dX16_lay_17 : decode cX16_lay 17 = .ok (.lload_n 1, 1) := dk_get daX16_lay 9 (r := (17, .lload_n 1, 1)) rfl
theorem dX16_lay_18 : decode cX16_lay 18 = .ok (.bipush 8, 2) := dk_get daX16_lay 10 (r := (18, .bipush 8, 2)) rfl
theorem dX16_lay_20 : decode cX16_lay 20 = .ok (.iload 4, 2) := dk_get daX16_lay 11 (r := (20, .iload 4, 2)) rfl
theorem dX16_lay_22 : decode cX16_lay 22 = .ok (.imul, 1) := dk_get daX16_lay 12 (r := (22, .imul, 1)) rfl
theorem dX16_lay_23 : decode cX16_lay 23 = .ok (.lushr, 1) := dk_get daX16_lay 13 (r := (23, .lushr, 1)) rfl
theorem dX16_lay_24 : decode cX16_lay 24 = .ok (.l2i, 1) := dk_get daX16_lay 14 (r := (24, .l2i, 1)) rfl
theorem dX16_lay_25 : decode cX16_lay 25 = .ok (.i2b, 1) := dk_get daX16_lay 15 (r := (25, .i2b, 1)) rfl
theorem dX16_lay_26 : decode cX16_lay 26 = .ok (.bastore, 1) := dk_get daX16_lay 16 (r := (26, .bastore, 1)) rfl
theorem dX16_lay_27 : decode cX16_lay 27 = .ok (.aload_n 0, 1) := dk_get daX16_lay 17 (r := (27, .aload_n 0, 1)) rfl
theorem dX16_lay_28 : decode cX16_lay 28 = .ok (.dup, 1) := dk_get daX16_lay 18 (r := (28, .dup, 1)) rfl
theorem dX16_lay_29 : decode cX16_lay 29 = .ok (.getfield 653, 3) := dk_get daX16_lay 19 (r := (29, .getfield 653, 3)) rfl
theorem dX16_lay_32 : decode cX16_lay 32 = .ok (.iconst 1, 1) := dk_get daX16_lay 20 (r := (32, .iconst 1, 1)) rfl
theorem dX16_lay_33 : decode cX16_lay 33 = .ok (.iadd, 1) := dk_get daX16_lay 21 (r := (33, .iadd, 1)) rfl
theorem dX16_lay_34 : decode cX16_lay 34 = .ok (.putfield 653, 3) := dk_get daX16_lay 22 (r := (34, .putfield 653, 3)) rfl
theorem dX16_lay_37 : decode cX16_lay 37 = .ok (.iinc 4 1, 3) := dk_get daX16_lay 23 (r := (37, .iinc 4 1, 3)) rfl
theorem dX16_lay_40 : decode cX16_lay 40 = .ok (.goto (-37), 3) := dk_get daX16_lay 24 (r := (40, .goto (-37), 3)) rfl
theorem dX16_lay_43 : decode cX16_lay 43 = .ok (.return_, 1) := dk_get daX16_lay 25 (r := (43, .return_, 1)) rfl
abbrev mX16_lay_ : ks_M := (RX16, cX16_lay_, 5, none, "lay")
def drX16_lay_ : List (Nat × Instr × Nat) := [(0, .iconst 0, 1), (1, .istore 4, 2), (3, .iload 4, 2), (5, .iload_n 3, 1), (6, .if_icmp .ge 34, 3), (9, .aload_n 0, 1), (10, .getfield 650, 3), (13, .aload_n 0, 1), (14, .getfield 653, 3), (17, .aload_n 1, 1), (18, .iload_n 2, 1), (19, .iload 4, 2), (21, .iadd, 1), (22, .baload, 1), (23, .bastore, 1), (24, .aload_n 0, 1), (25, .dup, 1), (26, .getfield 653, 3), (29, .iconst 1, 1), (30, .iadd, 1), (31, .putfield 653, 3), (34, .iinc 4 1, 3), (37, .goto (-34), 3), (40, .return_, 1)]
set_option maxRecDepth 100000 in
theorem daX16_lay_ : dk_all cX16_lay_ drX16_lay_ = true := by decide +kernel
theorem dX16_lay__0 : decode cX16_lay_ 0 = .ok (.iconst 0, 1) := dk_get daX16_lay_ 0 (r := (0, .iconst 0, 1)) rfl
theorem dX16_lay__1 : decode cX16_lay_ 1 = .ok (.istore 4, 2) := dk_get daX16_lay_ 1 (r := (1, .istore 4, 2)) rfl
theorem dX16_lay__3 : decode cX16_lay_ 3 = .ok (.iload 4, 2) := dk_get daX16_lay_ 2 (r := (3, .iload 4, 2)) rfl
theorem dX16_lay__5 : decode cX16_lay_ 5 = .ok (.iload_n 3, 1) := dk_get daX16_lay_ 3 (r := (5, .iload_n 3, 1)) rfl
theorem dX16_lay__6 : decode cX16_lay_ 6 = .ok (.if_icmp .ge 34, 3) := dk_get daX16_lay_ 4 (r := (6, .if_icmp .ge 34, 3)) rfl
theorem dX16_lay__9 : decode cX16_lay_ 9 = .ok (.aload_n 0, 1) := dk_get daX16_lay_ 5 (r := (9, .aload_n 0, 1)) rfl
theorem dX16_lay__10 : decode cX16_lay_ 10 = .ok (.getfield 650, 3) := dk_get daX16_lay_ 6 (r := (10, .getfield 650, 3)) rfl
theorem dX16_lay__13 : decode cX16_lay_ 13 = .ok (.aload_n 0, 1) := dk_get daX16_lay_ 7 (r := (13, .aload_n 0, 1)) rfl
theorem dX16_lay__14 : decode cX16_lay_ 14 = .ok (.getfield 653, 3) := dk_get daX16_lay_ 8 (r := (14, .getfield 653, 3)) rfl
theorem dX16_lay__17 : decode cX16_lay_ 17 = .ok (.aload_n 1, 1) := dk_get daX16_lay_ 9 (r := (17, .aload_n 1, 1)) rfl
theorem dX16_lay__18 : decode cX16_lay_ 18 = .ok (.iload_n 2, 1) := dk_get daX16_lay_ 10 (r := (18, .iload_n 2, 1)) rfl
theorem dX16_lay__19 : decode cX16_lay_ 19 = .ok (.iload 4, 2) := dk_get daX16_lay_ 11 (r := (19, .iload 4, 2)) rfl
theorem dX16_lay__21 : decode cX16_lay_ 21 = .ok (.iadd, 1) := dk_get daX16_lay_ 12 (r := (21, .iadd, 1)) rfl
theorem dX16_lay__22 : decode cX16_lay_ 22 = .ok (.baload, 1) := dk_get daX16_lay_ 13 (r := (22, .baload, 1)) rfl
theorem dX16_lay__23 : decode cX16_lay_ 23 = .ok (.bastore, 1) := dk_get daX16_lay_ 14 (r := (23, .bastore, 1)) rfl
theorem dX16_lay__24 : decode cX16_lay_ 24 = .ok (.aload_n 0, 1) := dk_get daX16_lay_ 15 (r := (24, .aload_n 0, 1)) rfl
theorem dX16_lay__25 : decode cX16_lay_ 25 = .ok (.dup, 1) := dk_get daX16_lay_ 16 (r := (25, .dup, 1)) rfl
theorem dX16_lay__26 : decode cX16_lay_ 26 = .ok (.getfield 653, 3) := dk_get daX16_lay_ 17 (r := (26, .getfield 653, 3)) rfl
theorem dX16_lay__29 : decode cX16_lay_ 29 = .ok (.iconst 1, 1) := dk_get daX16_lay_ 18 (r := (29, .iconst 1, 1)) rfl
theorem dX16_lay__30 : decode cX16_lay_ 30 = .ok (.iadd, 1) := dk_get daX16_lay_ 19 (r := (30, .iadd, 1)) rfl
theorem dX16_lay__31 : decode cX16_lay_ 31 = .ok (.putfield 653, 3) := dk_get daX16_lay_ 20 (r := (31, .putfield 653, 3)) rfl
theorem dX16_lay__34 : decode cX16_lay_ 34 = .ok (.iinc 4 1, 3) := dk_get daX16_lay_ 21 (r := (34, .iinc 4 1, 3)) rfl
theorem dX16_lay__37 : decode cX16_lay_ 37 = .ok (.goto (-34), 3) := dk_get daX16_lay_ 22 (r := (37, .goto (-34), 3)) rfl
theorem dX16_lay__40 : decode cX16_lay_ 40 = .ok (.return_, 1) := dk_get daX16_lay_ 23 (r := (40, .return_, 1)) rfl
abbrev mX16_layCount : ks_M := (RX16, cX16_layCount, 3, none, "layCount")
def drX16_layCount : List (Nat × Instr × Nat) := [(0, .lload_n 1, 1), (1, .ldc2_w 271, 3), (4, .lcmp, 1), (5, .ifCond .ge 12, 3), (8, .aload_n 0, 1), (9, .lload_n 1, 1), (10, .iconst 1, 1), (11, .invokevirtual 656, 3), (14, .goto 17, 3), (17, .aload_n 0, 1), (18, .ldc2_w 271, 3), (21, .iconst 1, 1), (22, .invokevirtual 656, 3), (25, .aload_n 0, 1), (26, .lload_n 1, 1), (27, .iconst 2, 1), (28, .invokevirtual 656, 3), (31, .return_, 1)]
set_option maxRecDepth 100000 in
theorem daX16_layCount : dk_all cX16_layCount drX16_layCount = true := by decide +kernel
theorem dX16_layCount_0 : decode cX16_layCount 0 = .ok (.lload_n 1, 1) := dk_get daX16_layCount 0 (r := (0, .lload_n 1, 1)) rfl
theorem dX16_layCount_1 : decode cX16_layCount 1 = .ok (.ldc2_w 271, 3) := dk_get daX16_layCount 1 (r := (1, .ldc2_w 271, 3)) rfl
theorem dX16_layCount_4 : decode cX16_layCount 4 = .ok (.lcmp, 1) := dk_get daX16_layCount 2 (r := (4, .lcmp, 1)) rfl
theorem dX16_layCount_5 : decode cX16_layCount 5 = .ok (.ifCond .ge 12, 3) := dk_get daX16_layCount 3 (r := (5, .ifCond .ge 12, 3)) rfl
theorem dX16_layCount_8 : decode cX16_layCount 8 = .ok (.aload_n 0, 1) := dk_get daX16_layCount 4 (r := (8, .aload_n 0, 1)) rfl
theorem dX16_layCount_9 : decode cX16_layCount 9 = .ok (.lload_n 1, 1) := dk_get daX16_layCount 5 (r := (9, .lload_n 1, 1)) rfl
theorem dX16_layCount_10 : decode cX16_layCount 10 = .ok (.iconst 1, 1) := dk_get daX16_layCount 6 (r := (10, .iconst 1, 1)) rfl
theorem dX16_layCount_11 : decode cX16_layCount 11 = .ok (.invokevirtual 656, 3) := dk_get daX16_layCount 7 (r := (11, .invokevirtual 656, 3)) rfl
theorem dX16_layCount_14 : decode cX16_layCount 14 = .ok (.goto 17, 3) := dk_get daX16_layCount 8 (r := (14, .goto 17, 3)) rfl
theorem dX16_layCount_17 : decode cX16_layCount 17 = .ok (.aload_n 0, 1) := dk_get daX16_layCount 9 (r := (17, .aload_n 0, 1)) rfl
theorem dX16_layCount_18 : decode cX16_layCount 18 = .ok (.ldc2_w 271, 3) := dk_get daX16_layCount 10 (r := (18, .ldc2_w 271, 3)) rfl
theorem dX16_layCount_21 : decode cX16_layCount 21 = .ok (.iconst 1, 1) := dk_get daX16_layCount 11 (r := (21, .iconst 1, 1)) rfl
theorem dX16_layCount_22 : decode cX16_layCount 22 = .ok (.invokevirtual 656, 3) := dk_get daX16_layCount 12 (r := (22, .invokevirtual 656, 3)) rfl
theorem dX16_layCount_25 : decode cX16_layCount 25 = .ok (.aload_n 0, 1) := dk_get daX16_layCount 13 (r := (25, .aload_n 0, 1)) rfl
theorem dX16_layCount_26 : decode cX16_layCount 26 = .ok (.lload_n 1, 1) := dk_get daX16_layCount 14 (r := (26, .lload_n 1, 1)) rfl
theorem dX16_layCount_27 : decode cX16_layCount 27 = .ok (.iconst 2, 1) := dk_get daX16_layCount 15 (r := (27, .iconst 2, 1)) rfl
theorem dX16_layCount_28 : decode cX16_layCount 28 = .ok (.invokevirtual 656, 3) := dk_get daX16_layCount 16 (r := (28, .invokevirtual 656, 3)) rfl
theorem dX16_layCount_31 : decode cX16_layCount 31 = .ok (.return_, 1) := dk_get daX16_layCount 17 (r := (31, .return_, 1)) rfl
abbrev mX16_hashed : ks_M := (RX16, cX16_hashed, 11, none, "hashed")
def drX16_hashed : List (Nat × Instr × Nat) := [(0, .aload_n 0, 1), (1, .invokevirtual 660, 3), (4, .iload 4, 2), (6, .bipush 31, 2), (8, .iand, 1), (9, .istore 5, 2), (11, .iconst 0, 1), (12, .istore 6, 2), (14, .iload 6, 2), (16, .bipush 32, 2), (18, .if_icmp .ge 27, 3), (21, .aload_n 0, 1), (22, .getfield 213, 3), (25, .iload 6, 2), (27, .iload 6, 2), (29, .ifCond .ne 7, 3), (32, .iconst 1, 1), (33, .goto 4, 3), (36, .iconst 0, 1), (37, .i2b, 1), (38, .bastore, 1), (39, .iinc 6 1, 3), (42, .goto (-28), 3), (45, .iload 5, 2), (47, .iconst 3, 1), (48, .if_icmp .ne 14, 3), (51, .iload_n 3, 1), (52, .aload_n 1, 1), (53, .getfield 307, 3), (56, .iload_n 2, 1), (57, .iaload, 1), (58, .if_icmp .lt 4, 3), (61, .return_, 1), (62, .aload_n 0, 1), (63, .iconst 0, 1), (64, .putfield 653, 3), (67, .aload_n 0, 1), (68, .aload_n 1, 1), (69, .getfield 275, 3), (72, .aload_n 1, 1), (73, .getfield 290, 3), (76, .iload_n 2, 1), (77, .iaload, 1), (78, .iconst 4, 1), (79, .invokevirtual 663, 3), (82, .iload 4, 2), (84, .sipush 128, 3), (87, .iand, 1), (88, .ifCond .eq 7, 3), (91, .iconst 1, 1), (92, .goto 4, 3), (95, .iconst 0, 1), (96, .istore 6, 2), (98, .aload_n 0, 1), (99, .iload 6, 2), (101, .ifCond .eq 7, 3), (104, .lconst 1, 1), (105, .goto 10, 3), (108, .aload_n 1, 1), (109, .getfield 297, 3), (112, .iload_n 2, 1), (113, .iaload, 1), (114, .i2l, 1), (115, .invokevirtual 665, 3), (118, .iconst 0, 1), (119, .istore 7, 2), (121, .iload 7, 2), (123, .aload_n 1, 1), (124, .getfield 297, 3), (127, .iload_n 2, 1), (128, .iaload, 1), (129, .if_icmp .ge 136, 3), (132, .iload 6, 2), (134, .ifCond .eq 12, 3), (137, .iload 7, 2), (139, .iload_n 3, 1), (140, .if_icmp .eq 6, 3), (143, .goto 116, 3), (146, .aload_n 0, 1), (147, .aload_n 1, 1), (148, .iload_n 2, 1), (149, .iload 7, 2), (151, .invokevirtual 419, 3), (154, .istore 8, 2), (156, .aload_n 0, 1), (157, .aload_n 1, 1), (158, .getfield 275, 3), (161, .iload 8, 2), (163, .bipush 36, 2), (165, .invokevirtual 663, 3), (168, .aload_n 0, 1), (169, .aload_n 1, 1), (170, .getfield 275, 3), (173, .iload 8, 2), (175, .bipush 36, 2), (177, .iadd, 1), (178, .invokevirtual 328, 3), (181, .istore 9, 2), (183, .aload_n 0, 1), (184, .iload 7, 2), (186, .iload_n 3, 1), (187, .if_icmp .ne 11, 3), (190, .aload_n 0, 1), (191, .getfield 642, 3), (194, .i2l, 1), (195, .goto 4, 3), (198, .lconst 0, 1), (199, .invokevirtual 665, 3), (202, .iload 7, 2), (204, .iload_n 3, 1), (205, .if_icmp .ne 16, 3), (208, .aload_n 0, 1), (209, .aload_n 0, 1), (210, .getfield 645, 3), (213, .iconst 0, 1), (214, .aload_n 0, 1), (215, .getfield 642, 3), (218, .invokevirtual 663, 3), (221, .aload_n 0, 1), (222, .iload 7, 2), (224, .iload_n 3, 1), (225, .if_icmp .eq 19, 3), (228, .iload 5, 2), (230, .iconst 2, 1), (231, .if_icmp .eq 9, 3), (234, .iload 5, 2), (236, .iconst 3, 1), (237, .if_icmp .ne 7, 3), (240, .lconst 0, 1), (241, .goto 14, 3), (244, .aload_n 0, 1), (245, .aload_n 1, 1), (246, .getfield 275, 3), (249, .iload 9, 2), (251, .iconst 4, 1), (252, .invokevirtual 267, 3), (255, .iconst 4, 1), (256, .invokevirtual 656, 3), (259, .iinc 7 1, 3), (262, .goto (-141), 3), (265, .iload 5, 2), (267, .iconst 2, 1), (268, .if_icmp .ne 7, 3), (271, .iconst 0, 1), (272, .goto 21, 3), (275, .iload 5, 2), (277, .iconst 3, 1), (278, .if_icmp .ne 9, 3), (281, .iload_n 3, 1), (282, .iconst 1, 1), (283, .iadd, 1), (284, .goto 9, 3), (287, .aload_n 1, 1), (288, .getfield 307, 3), (291, .iload_n 2, 1), (292, .iaload, 1), (293, .istore 7, 2), (295, .aload_n 0, 1), (296, .iload 7, 2), (298, .i2l, 1), (299, .invokevirtual 665, 3), (302, .iconst 0, 1), (303, .istore 8, 2), (305, .iload 8, 2), (307, .iload 7, 2), (309, .if_icmp .ge 78, 3), (312, .aload_n 0, 1), (313, .aload_n 1, 1), (314, .iload_n 2, 1), (315, .iload 8, 2), (317, .invokevirtual 450, 3), (320, .istore 9, 2), (322, .aload_n 0, 1), (323, .aload_n 1, 1), (324, .getfield 275, 3), (327, .iload 9, 2), (329, .bipush 8, 2), (331, .iadd, 1), (332, .invokevirtual 328, 3), (335, .istore 10, 2), (337, .iload 5, 2), (339, .iconst 3, 1), (340, .if_icmp .ne 26, 3), (343, .iload 8, 2), (345, .iload_n 3, 1), (346, .if_icmp .ge 20, 3), (349, .aload_n 0, 1), (350, .ldc2_w 668, 3), (353, .bipush 8, 2), (355, .invokevirtual 656, 3), (358, .aload_n 0, 1), (359, .lconst 0, 1), (360, .invokevirtual 665, 3), (363, .goto 18, 3), (366, .aload_n 0, 1), (367, .aload_n 1, 1), (368, .getfield 275, 3), (371, .iload 9, 2), (373, .iload 10, 2), (375, .iload 9, 2), (377, .isub, 1), (378, .invokevirtual 663, 3), (381, .iinc 8 1, 3), (384, .goto (-79), 3), (387, .aload_n 0, 1), (388, .aload_n 1, 1), (389, .getfield 275, 3), (392, .aload_n 1, 1), (393, .getfield 313, 3), (396, .iload_n 2, 1), (397, .iaload, 1), (398, .iconst 4, 1), (399, .isub, 1), (400, .iconst 4, 1), (401, .invokevirtual 663, 3), (404, .aload_n 0, 1), (405, .iload 4, 2), (407, .i2l, 1), (408, .iconst 4, 1), (409, .invokevirtual 656, 3), (412, .aload_n 0, 1), (413, .aload_n 0, 1), (414, .getfield 650, 3), (417, .iconst 0, 1), (418, .aload_n 0, 1), (419, .getfield 653, 3), (422, .aload_n 0, 1), (423, .getfield 213, 3), (426, .iconst 0, 1), (427, .invokevirtual 319, 3), (430, .return_, 1)]
set_option maxRecDepth 100000 in
theorem daX16_hashed : dk_all cX16_hashed drX16_hashed = true := by decide +kernel
theorem dX16_hashed_0 : decode cX16_hashed 0 = .ok (.aload_n 0, 1) := dk_get daX16_hashed 0 (r := (0, .aload_n 0, 1)) rfl
theorem dX16_hashed_1 : decode cX16_hashed 1 = .ok (.invokevirtual 660, 3) := dk_get daX16_hashed 1 (r := (1, .invokevirtual 660, 3)) rfl
theorem dX16_hashed_4 : decode cX16_hashed 4 = .ok (.iload 4, 2) := dk_get daX16_hashed 2 (r := (4, .iload 4, 2)) rfl
theorem dX16_hashed_6 : decode cX16_hashed 6 = .ok (.bipush 31, 2) := dk_get daX16_hashed 3 (r := (6, .bipush 31, 2)) rfl
theorem dX16_hashed_8 : decode cX16_hashed 8 = .ok (.iand, 1) := dk_get daX16_hashed 4 (r := (8, .iand, 1)) rfl
theorem dX16_hashed_9 : decode cX16_hashed 9 = .ok (.istore 5, 2) := dk_get daX16_hashed 5 (r := (9, .istore 5, 2)) rfl
theorem dX16_hashed_11 : decode cX16_hashed 11 = .ok (.iconst 0, 1) := dk_get daX16_hashed 6 (r := (11, .iconst 0, 1)) rfl
theorem dX16_hashed_12 : decode cX16_hashed 12 = .ok (.istore 6, 2) := dk_get daX16_hashed 7 (r := (12, .istore 6, 2)) rfl
theorem dX16_hashed_14 : decode cX16_hashed 14 = .ok (.iload 6, 2) := dk_get daX16_hashed 8 (r := (14, .iload 6, 2)) rfl
theorem dX16_hashed_16 : decode cX16_hashed 16 = .ok (.bipush 32, 2) := dk_get daX16_hashed 9 (r := (16, .bipush 32, 2)) rfl
theorem dX16_hashed_18 : decode cX16_hashed 18 = .ok (.if_icmp .ge 27, 3) := dk_get daX16_hashed 10 (r := (18, .if_icmp .ge 27, 3)) rfl
theorem dX16_hashed_21 : decode cX16_hashed 21 = .ok (.aload_n 0, 1) := dk_get daX16_hashed 11 (r := (21, .aload_n 0, 1)) rfl
theorem dX16_hashed_22 : decode cX16_hashed 22 = .ok (.getfield 213, 3) := dk_get daX16_hashed 12 (r := (22, .getfield 213, 3)) rfl
theorem dX16_hashed_25 : decode cX16_hashed 25 = .ok (.iload 6, 2) := dk_get daX16_hashed 13 (r := (25, .iload 6, 2)) rfl
theorem dX16_hashed_27 : decode cX16_hashed 27 = .ok (.iload 6, 2) := dk_get daX16_hashed 14 (r := (27, .iload 6, 2)) rfl
theorem dX16_hashed_29 : decode cX16_hashed 29 = .ok (.ifCond .ne 7, 3) := dk_get daX16_hashed 15 (r := (29, .ifCond .ne 7, 3)) rfl
theorem dX16_hashed_32 : decode cX16_hashed 32 = .ok (.iconst 1, 1) := dk_get daX16_hashed 16 (r := (32, .iconst 1, 1)) rfl
theorem dX16_hashed_33 : decode cX16_hashed 33 = .ok (.goto 4, 3) := dk_get daX16_hashed 17 (r := (33, .goto 4, 3)) rfl
theorem dX16_hashed_36 : decode cX16_hashed 36 = .ok (.iconst 0, 1) := dk_get daX16_hashed 18 (r := (36, .iconst 0, 1)) rfl
theorem dX16_hashed_37 : decode cX16_hashed 37 = .ok (.i2b, 1) := dk_get daX16_hashed 19 (r := (37, .i2b, 1)) rfl
theorem dX16_hashed_38 : decode cX16_hashed 38 = .ok (.bastore, 1) := dk_get daX16_hashed 20 (r := (38, .bastore, 1)) rfl
theorem dX16_hashed_39 : decode cX16_hashed 39 = .ok (.iinc 6 1, 3) := dk_get daX16_hashed 21 (r := (39, .iinc 6 1, 3)) rfl
theorem dX16_hashed_42 : decode cX16_hashed 42 = .ok (.goto (-28), 3) := dk_get daX16_hashed 22 (r := (42, .goto (-28), 3)) rfl
theorem dX16_hashed_45 : decode cX16_hashed 45 = .ok (.iload 5, 2) := dk_get daX16_hashed 23 (r := (45, .iload 5, 2)) rfl
theorem dX16_hashed_47 : decode cX16_hashed 47 = .ok (.iconst 3, 1) := dk_get daX16_hashed 24 (r := (47, .iconst 3, 1)) rfl
theorem dX16_hashed_48 : decode cX16_hashed 48 = .ok (.if_icmp .ne 14, 3) := dk_get daX16_hashed 25 (r := (48, .if_icmp .ne 14, 3)) rfl
theorem dX16_hashed_51 : decode cX16_hashed 51 = .ok (.iload_n 3, 1) := dk_get daX16_hashed 26 (r := (51, .iload_n 3, 1)) rfl
theorem dX16_hashed_52 : decode cX16_hashed 52 = .ok (.aload_n 1, 1) := dk_get daX16_hashed 27 (r := (52, .aload_n 1, 1)) rfl
theorem dX16_hashed_53 : decode cX16_hashed 53 = .ok (.getfield 307, 3) := dk_get daX16_hashed 28 (r := (53, .getfield 307, 3)) rfl
theorem dX16_hashed_56 : decode cX16_hashed 56 = .ok (.iload_n 2, 1) := dk_get daX16_hashed 29 (r := (56, .iload_n 2, 1)) rfl
theorem dX16_hashed_57 : decode cX16_hashed 57 = .ok (.iaload, 1) := dk_get daX16_hashed 30 (r := (57, .iaload, 1)) rfl
theorem dX16_hashed_58 : decode cX16_hashed 58 = .ok (.if_icmp .lt 4, 3) := dk_get daX16_hashed 31 (r := (58, .if_icmp .lt 4, 3)) rfl
theorem dX16_hashed_61 : decode cX16_hashed 61 = .ok (.return_, 1) := dk_get daX16_hashed 32 (r := (61, .return_, 1)) rfl
theorem dX16_hashed_62 : decode cX16_hashed 62 = .ok (.aload_n 0, 1) := dk_get daX16_hashed 33 (r := (62, .aload_n 0, 1)) rfl
theorem dX16_hashed_63 : decode cX16_hashed 63 = .ok (.iconst 0, 1) := dk_get daX16_hashed 34 (r := (63, .iconst 0, 1)) rfl
theorem dX16_hashed_64 : decode cX16_hashed 64 = .ok (.putfield 653, 3) := dk_get daX16_hashed 35 (r := (64, .putfield 653, 3)) rfl
theorem dX16_hashed_67 : decode cX16_hashed 67 = .ok (.aload_n 0, 1) := dk_get daX16_hashed 36 (r := (67, .aload_n 0, 1)) rfl
theorem dX16_hashed_68 : decode cX16_hashed 68 = .ok (.aload_n 1, 1) := dk_get daX16_hashed 37 (r := (68, .aload_n 1, 1)) rfl
theorem dX16_hashed_69 : decode cX16_hashed 69 = .ok (.getfield 275, 3) := dk_get daX16_hashed 38 (r := (69, .getfield 275, 3)) rfl
theorem dX16_hashed_72 : decode cX16_hashed 72 = .ok (.aload_n 1, 1) := dk_get daX16_hashed 39 (r := (72, .aload_n 1, 1)) rfl
theorem dX16_hashed_73 : decode cX16_hashed 73 = .ok (.getfield 290, 3) := dk_get daX16_hashed 40 (r := (73, .getfield 290, 3)) rfl
theorem dX16_hashed_76 : decode cX16_hashed 76 = .ok (.iload_n 2, 1) := dk_get daX16_hashed 41 (r := (76, .iload_n 2, 1)) rfl
theorem dX16_hashed_77 : decode cX16_hashed 77 = .ok (.iaload, 1) := dk_get daX16_hashed 42 (r := (77, .iaload, 1)) rfl
theorem dX16_hashed_78 : decode cX16_hashed 78 = .ok (.iconst 4, 1) := dk_get daX16_hashed 43 (r := (78, .iconst 4, 1)) rfl
theorem dX16_hashed_79 : decode cX16_hashed 79 = .ok (.invokevirtual 663, 3) := dk_get daX16_hashed 44 (r := (79, .invokevirtual 663, 3)) rfl
theorem dX16_hashed_82 : decode cX16_hashed 82 = .ok (.iload 4, 2) := dk_get daX16_hashed 45 (r := (82, .iload 4, 2)) rfl
theorem dX16_hashed_84 : decode cX16_hashed 84 = .ok (.sipush 128, 3) := dk_get daX16_hashed 46 (r := (84, .sipush 128, 3)) rfl
theorem dX16_hashed_87 : decode cX16_hashed 87 = .ok (.iand, 1) := dk_get daX16_hashed 47 (r := (87, .iand, 1)) rfl
theorem dX16_hashed_88 : decode cX16_hashed 88 = .ok (.ifCond .eq 7, 3) := dk_get daX16_hashed 48 (r := (88, .ifCond .eq 7, 3)) rfl
theorem dX16_hashed_91 : decode cX16_hashed 91 = .ok (.iconst 1, 1) := dk_get daX16_hashed 49 (r := (91, .iconst 1, 1)) rfl
theorem dX16_hashed_92 : decode cX16_hashed 92 = .ok (.goto 4, 3) := dk_get daX16_hashed 50 (r := (92, .goto 4, 3)) rfl
theorem dX16_hashed_95 : decode cX16_hashed 95 = .ok (.iconst 0, 1) := dk_get daX16_hashed 51 (r := (95, .iconst 0, 1)) rfl
theorem dX16_hashed_96 : decode cX16_hashed 96 = .ok (.istore 6, 2) := dk_get daX16_hashed 52 (r := (96, .istore 6, 2)) rfl
theorem dX16_hashed_98 : decode cX16_hashed 98 = .ok (.aload_n 0, 1) := dk_get daX16_hashed 53 (r := (98, .aload_n 0, 1)) rfl
theorem dX16_hashed_99 : decode cX16_hashed 99 = .ok (.iload 6, 2) := dk_get daX16_hashed 54 (r := (99, .iload 6, 2)) rfl
theorem dX16_hashed_101 : decode cX16_hashed 101 = .ok (.ifCond .eq 7, 3) := dk_get daX16_hashed 55 (r := (101, .ifCond .eq 7, 3)) rfl
theorem dX16_hashed_104 : decode cX16_hashed 104 = .ok (.lconst 1, 1) := dk_get daX16_hashed 56 (r := (104, .lconst 1, 1)) rfl
theorem dX16_hashed_105 : decode cX16_hashed 105 = .ok (.goto 10, 3) := dk_get daX16_hashed 57 (r := (105, .goto 10, 3)) rfl
theorem dX16_hashed_108 : decode cX16_hashed 108 = .ok (.aload_n 1, 1) := dk_get daX16_hashed 58 (r := (108, .aload_n 1, 1)) rfl
theorem dX16_hashed_109 : decode cX16_hashed 109 = .ok (.getfield 297, 3) := dk_get daX16_hashed 59 (r := (109, .getfield 297, 3)) rfl
theorem dX16_hashed_112 : decode cX16_hashed 112 = .ok (.iload_n 2, 1) := dk_get daX16_hashed 60 (r := (112, .iload_n 2, 1)) rfl
theorem dX16_hashed_113 : decode cX16_hashed 113 = .ok (.iaload, 1) := dk_get daX16_hashed 61 (r := (113, .iaload, 1)) rfl
theorem dX16_hashed_114 : decode cX16_hashed 114 = .ok (.i2l, 1) := dk_get daX16_hashed 62 (r := (114, .i2l, 1)) rfl
theorem dX16_hashed_115 : decode cX16_hashed 115 = .ok (.invokevirtual 665, 3) := dk_get daX16_hashed 63 (r := (115, .invokevirtual 665, 3)) rfl
theorem dX16_hashed_118 : decode cX16_hashed 118 = .ok (.iconst 0, 1) := dk_get daX16_hashed 64 (r := (118, .iconst 0, 1)) rfl
theorem dX16_hashed_119 : decode cX16_hashed 119 = .ok (.istore 7, 2) := dk_get daX16_hashed 65 (r := (119, .istore 7, 2)) rfl
theorem dX16_hashed_121 : decode cX16_hashed 121 = .ok (.iload 7, 2) := dk_get daX16_hashed 66 (r := (121, .iload 7, 2)) rfl
theorem dX16_hashed_123 : decode cX16_hashed 123 = .ok (.aload_n 1, 1) := dk_get daX16_hashed 67 (r := (123, .aload_n 1, 1)) rfl
theorem dX16_hashed_124 : decode cX16_hashed 124 = .ok (.getfield 297, 3) := dk_get daX16_hashed 68 (r := (124, .getfield 297, 3)) rfl
theorem dX16_hashed_127 : decode cX16_hashed 127 = .ok (.iload_n 2, 1) := dk_get daX16_hashed 69 (r := (127, .iload_n 2, 1)) rfl
theorem dX16_hashed_128 : decode cX16_hashed 128 = .ok (.iaload, 1) := dk_get daX16_hashed 70 (r := (128, .iaload, 1)) rfl
theorem dX16_hashed_129 : decode cX16_hashed 129 = .ok (.if_icmp .ge 136, 3) := dk_get daX16_hashed 71 (r := (129, .if_icmp .ge 136, 3)) rfl
theorem dX16_hashed_132 : decode cX16_hashed 132 = .ok (.iload 6, 2) := dk_get daX16_hashed 72 (r := (132, .iload 6, 2)) rfl
theorem dX16_hashed_134 : decode cX16_hashed 134 = .ok (.ifCond .eq 12, 3) := dk_get daX16_hashed 73 (r := (134, .ifCond .eq 12, 3)) rfl
theorem dX16_hashed_137 : decode cX16_hashed 137 = .ok (.iload 7, 2) := dk_get daX16_hashed 74 (r := (137, .iload 7, 2)) rfl
theorem dX16_hashed_139 : decode cX16_hashed 139 = .ok (.iload_n 3, 1) := dk_get daX16_hashed 75 (r := (139, .iload_n 3, 1)) rfl
theorem dX16_hashed_140 : decode cX16_hashed 140 = .ok (.if_icmp .eq 6, 3) := dk_get daX16_hashed 76 (r := (140, .if_icmp .eq 6, 3)) rfl
theorem dX16_hashed_143 : decode cX16_hashed 143 = .ok (.goto 116, 3) := dk_get daX16_hashed 77 (r := (143, .goto 116, 3)) rfl
theorem dX16_hashed_146 : decode cX16_hashed 146 = .ok (.aload_n 0, 1) := dk_get daX16_hashed 78 (r := (146, .aload_n 0, 1)) rfl
theorem dX16_hashed_147 : decode cX16_hashed 147 = .ok (.aload_n 1, 1) := dk_get daX16_hashed 79 (r := (147, .aload_n 1, 1)) rfl
theorem dX16_hashed_148 : decode cX16_hashed 148 = .ok (.iload_n 2, 1) := dk_get daX16_hashed 80 (r := (148, .iload_n 2, 1)) rfl
theorem dX16_hashed_149 : decode cX16_hashed 149 = .ok (.iload 7, 2) := dk_get daX16_hashed 81 (r := (149, .iload 7, 2)) rfl
theorem dX16_hashed_151 : decode cX16_hashed 151 = .ok (.invokevirtual 419, 3) := dk_get daX16_hashed 82 (r := (151, .invokevirtual 419, 3)) rfl
theorem dX16_hashed_154 : decode cX16_hashed 154 = .ok (.istore 8, 2) := dk_get daX16_hashed 83 (r := (154, .istore 8, 2)) rfl
theorem dX16_hashed_156 : decode cX16_hashed 156 = .ok (.aload_n 0, 1) := dk_get daX16_hashed 84 (r := (156, .aload_n 0, 1)) rfl
theorem dX16_hashed_157 : decode cX16_hashed 157 = .ok (.aload_n 1, 1) := dk_get daX16_hashed 85 (r := (157, .aload_n 1, 1)) rfl
theorem dX16_hashed_158 : decode cX16_hashed 158 = .ok (.getfield 275, 3) := dk_get daX16_hashed 86 (r := (158, .getfield 275, 3)) rfl
theorem dX16_hashed_161 : decode cX16_hashed 161 = .ok (.iload 8, 2) := dk_get daX16_hashed 87 (r := (161, .iload 8, 2)) rfl
theorem dX16_hashed_163 : decode cX16_hashed 163 = .ok (.bipush 36, 2) := dk_get daX16_hashed 88 (r := (163, .bipush 36, 2)) rfl
theorem dX16_hashed_165 : decode cX16_hashed 165 = .ok (.invokevirtual 663, 3) := dk_get daX16_hashed 89 (r := (165, .invokevirtual 663, 3)) rfl
theorem dX16_hashed_168 : decode cX16_hashed 168 = .ok (.aload_n 0, 1) := dk_get daX16_hashed 90 (r := (168, .aload_n 0, 1)) rfl
theorem dX16_hashed_169 : decode cX16_hashed 169 = .ok (.aload_n 1, 1) := dk_get daX16_hashed 91 (r := (169, .aload_n 1, 1)) rfl
theorem dX16_hashed_170 : decode cX16_hashed 170 = .ok (.getfield 275, 3) := dk_get daX16_hashed 92 (r := (170, .getfield 275, 3)) rfl
theorem dX16_hashed_173 : decode cX16_hashed 173 = .ok (.iload 8, 2) := dk_get daX16_hashed 93 (r := (173, .iload 8, 2)) rfl
theorem dX16_hashed_175 : decode cX16_hashed 175 = .ok (.bipush 36, 2) := dk_get daX16_hashed 94 (r := (175, .bipush 36, 2)) rfl
theorem dX16_hashed_177 : decode cX16_hashed 177 = .ok (.iadd, 1) := dk_get daX16_hashed 95 (r := (177, .iadd, 1)) rfl
theorem dX16_hashed_178 : decode cX16_hashed 178 = .ok (.invokevirtual 328, 3) := dk_get daX16_hashed 96 (r := (178, .invokevirtual 328, 3)) rfl
theorem dX16_hashed_181 : decode cX16_hashed 181 = .ok (.istore 9, 2) := dk_get daX16_hashed 97 (r := (181, .istore 9, 2)) rfl
theorem dX16_hashed_183 : decode cX16_hashed 183 = .ok (.aload_n 0, 1) := dk_get daX16_hashed 98 (r := (183, .aload_n 0, 1)) rfl
theorem dX16_hashed_184 : decode cX16_hashed 184 = .ok (.iload 7, 2) := dk_get daX16_hashed 99 (r := (184, .iload 7, 2)) rfl
theorem dX16_hashed_186 : decode cX16_hashed 186 = .ok (.iload_n 3, 1) := dk_get daX16_hashed 100 (r := (186, .iload_n 3, 1)) rfl
theorem dX16_hashed_187 : decode cX16_hashed 187 = .ok (.if_icmp .ne 11, 3) := dk_get daX16_hashed 101 (r := (187, .if_icmp .ne 11, 3)) rfl
theorem dX16_hashed_190 : decode cX16_hashed 190 = .ok (.aload_n 0, 1) := dk_get daX16_hashed 102 (r := (190, .aload_n 0, 1)) rfl
theorem dX16_hashed_191 : decode cX16_hashed 191 = .ok (.getfield 642, 3) := dk_get daX16_hashed 103 (r := (191, .getfield 642, 3)) rfl
theorem dX16_hashed_194 : decode cX16_hashed 194 = .ok (.i2l, 1) := dk_get daX16_hashed 104 (r := (194, .i2l, 1)) rfl
theorem dX16_hashed_195 : decode cX16_hashed 195 = .ok (.goto 4, 3) := dk_get daX16_hashed 105 (r := (195, .goto 4, 3)) rfl
theorem dX16_hashed_198 : decode cX16_hashed 198 = .ok (.lconst 0, 1) := dk_get daX16_hashed 106 (r := (198, .lconst 0, 1)) rfl
theorem dX16_hashed_199 : decode cX16_hashed 199 = .ok (.invokevirtual 665, 3) := dk_get daX16_hashed 107 (r := (199, .invokevirtual 665, 3)) rfl
theorem dX16_hashed_202 : decode cX16_hashed 202 = .ok (.iload 7, 2) := dk_get daX16_hashed 108 (r := (202, .iload 7, 2)) rfl
theorem dX16_hashed_204 : decode cX16_hashed 204 = .ok (.iload_n 3, 1) := dk_get daX16_hashed 109 (r := (204, .iload_n 3, 1)) rfl
theorem dX16_hashed_205 : decode cX16_hashed 205 = .ok (.if_icmp .ne 16, 3) := dk_get daX16_hashed 110 (r := (205, .if_icmp .ne 16, 3)) rfl
theorem dX16_hashed_208 : decode cX16_hashed 208 = .ok (.aload_n 0, 1) := dk_get daX16_hashed 111 (r := (208, .aload_n 0, 1)) rfl
theorem dX16_hashed_209 : decode cX16_hashed 209 = .ok (.aload_n 0, 1) := dk_get daX16_hashed 112 (r := (209, .aload_n 0, 1)) rfl
theorem dX16_hashed_210 : decode cX16_hashed 210 = .ok (.getfield 645, 3) := dk_get daX16_hashed 113 (r := (210, .getfield 645, 3)) rfl
theorem dX16_hashed_213 : decode cX16_hashed 213 = .ok (.iconst 0, 1) := dk_get daX16_hashed 114 (r := (213, .iconst 0, 1)) rfl
theorem dX16_hashed_214 : decode cX16_hashed 214 = .ok (.aload_n 0, 1) := dk_get daX16_hashed 115 (r := (214, .aload_n 0, 1)) rfl
theorem dX16_hashed_215 : decode cX16_hashed 215 = .ok (.getfield 642, 3) := dk_get daX16_hashed 116 (r := (215, .getfield 642, 3)) rfl
theorem dX16_hashed_218 : decode cX16_hashed 218 = .ok (.invokevirtual 663, 3) := dk_get daX16_hashed 117 (r := (218, .invokevirtual 663, 3)) rfl
theorem dX16_hashed_221 : decode cX16_hashed 221 = .ok (.aload_n 0, 1) := dk_get daX16_hashed 118 (r := (221, .aload_n 0, 1)) rfl
theorem dX16_hashed_222 : decode cX16_hashed 222 = .ok (.iload 7, 2) := dk_get daX16_hashed 119 (r := (222, .iload 7, 2)) rfl
theorem dX16_hashed_224 : decode cX16_hashed 224 = .ok (.iload_n 3, 1) := dk_get daX16_hashed 120 (r := (224, .iload_n 3, 1)) rfl
theorem dX16_hashed_225 : decode cX16_hashed 225 = .ok (.if_icmp .eq 19, 3) := dk_get daX16_hashed 121 (r := (225, .if_icmp .eq 19, 3)) rfl
theorem dX16_hashed_228 : decode cX16_hashed 228 = .ok (.iload 5, 2) := dk_get daX16_hashed 122 (r := (228, .iload 5, 2)) rfl
theorem dX16_hashed_230 : decode cX16_hashed 230 = .ok (.iconst 2, 1) := dk_get daX16_hashed 123 (r := (230, .iconst 2, 1)) rfl
theorem dX16_hashed_231 : decode cX16_hashed 231 = .ok (.if_icmp .eq 9, 3) := dk_get daX16_hashed 124 (r := (231, .if_icmp .eq 9, 3)) rfl
theorem dX16_hashed_234 : decode cX16_hashed 234 = .ok (.iload 5, 2) := dk_get daX16_hashed 125 (r := (234, .iload 5, 2)) rfl
theorem dX16_hashed_236 : decode cX16_hashed 236 = .ok (.iconst 3, 1) := dk_get daX16_hashed 126 (r := (236, .iconst 3, 1)) rfl
theorem dX16_hashed_237 : decode cX16_hashed 237 = .ok (.if_icmp .ne 7, 3) := dk_get daX16_hashed 127 (r := (237, .if_icmp .ne 7, 3)) rfl
theorem dX16_hashed_240 : decode cX16_hashed 240 = .ok (.lconst 0, 1) := dk_get daX16_hashed 128 (r := (240, .lconst 0, 1)) rfl
theorem dX16_hashed_241 : decode cX16_hashed 241 = .ok (.goto 14, 3) := dk_get daX16_hashed 129 (r := (241, .goto 14, 3)) rfl
theorem dX16_hashed_244 : decode cX16_hashed 244 = .ok (.aload_n 0, 1) := dk_get daX16_hashed 130 (r := (244, .aload_n 0, 1)) rfl
theorem dX16_hashed_245 : decode cX16_hashed 245 = .ok (.aload_n 1, 1) := dk_get daX16_hashed 131 (r := (245, .aload_n 1, 1)) rfl
theorem dX16_hashed_246 : decode cX16_hashed 246 = .ok (.getfield 275, 3) := dk_get daX16_hashed 132 (r := (246, .getfield 275, 3)) rfl
theorem dX16_hashed_249 : decode cX16_hashed 249 = .ok (.iload 9, 2) := dk_get daX16_hashed 133 (r := (249, .iload 9, 2)) rfl
theorem dX16_hashed_251 : decode cX16_hashed 251 = .ok (.iconst 4, 1) := dk_get daX16_hashed 134 (r := (251, .iconst 4, 1)) rfl
theorem dX16_hashed_252 : decode cX16_hashed 252 = .ok (.invokevirtual 267, 3) := dk_get daX16_hashed 135 (r := (252, .invokevirtual 267, 3)) rfl
theorem dX16_hashed_255 : decode cX16_hashed 255 = .ok (.iconst 4, 1) := dk_get daX16_hashed 136 (r := (255, .iconst 4, 1)) rfl
theorem dX16_hashed_256 : decode cX16_hashed 256 = .ok (.invokevirtual 656, 3) := dk_get daX16_hashed 137 (r := (256, .invokevirtual 656, 3)) rfl
theorem dX16_hashed_259 : decode cX16_hashed 259 = .ok (.iinc 7 1, 3) := dk_get daX16_hashed 138 (r := (259, .iinc 7 1, 3)) rfl
theorem dX16_hashed_262 : decode cX16_hashed 262 = .ok (.goto (-141), 3) := dk_get daX16_hashed 139 (r := (262, .goto (-141), 3)) rfl
theorem dX16_hashed_265 : decode cX16_hashed 265 = .ok (.iload 5, 2) := dk_get daX16_hashed 140 (r := (265, .iload 5, 2)) rfl
theorem dX16_hashed_267 : decode cX16_hashed 267 = .ok (.iconst 2, 1) := dk_get daX16_hashed 141 (r := (267, .iconst 2, 1)) rfl
theorem dX16_hashed_268 : decode cX16_hashed 268 = .ok (.if_icmp .ne 7, 3) := dk_get daX16_hashed 142 (r := (268, .if_icmp .ne 7, 3)) rfl
theorem dX16_hashed_271 : decode cX16_hashed 271 = .ok (.iconst 0, 1) := dk_get daX16_hashed 143 (r := (271, .iconst 0, 1)) rfl
theorem dX16_hashed_272 : decode cX16_hashed 272 = .ok (.goto 21, 3) := dk_get daX16_hashed 144 (r := (272, .goto 21, 3)) rfl
theorem dX16_hashed_275 : decode cX16_hashed 275 = .ok (.iload 5, 2) := dk_get daX16_hashed 145 (r := (275, .iload 5, 2)) rfl
theorem dX16_hashed_277 : decode cX16_hashed 277 = .ok (.iconst 3, 1) := dk_get daX16_hashed 146 (r := (277, .iconst 3, 1)) rfl
theorem dX16_hashed_278 : decode cX16_hashed 278 = .ok (.if_icmp .ne 9, 3) := dk_get daX16_hashed 147 (r := (278, .if_icmp .ne 9, 3)) rfl
theorem dX16_hashed_281 : decode cX16_hashed 281 = .ok (.iload_n 3, 1) := dk_get daX16_hashed 148 (r := (281, .iload_n 3, 1)) rfl
theorem dX16_hashed_282 : decode cX16_hashed 282 = .ok (.iconst 1, 1) := dk_get daX16_hashed 149 (r := (282, .iconst 1, 1)) rfl
theorem dX16_hashed_283 : decode cX16_hashed 283 = .ok (.iadd, 1) := dk_get daX16_hashed 150 (r := (283, .iadd, 1)) rfl
theorem dX16_hashed_284 : decode cX16_hashed 284 = .ok (.goto 9, 3) := dk_get daX16_hashed 151 (r := (284, .goto 9, 3)) rfl
theorem dX16_hashed_287 : decode cX16_hashed 287 = .ok (.aload_n 1, 1) := dk_get daX16_hashed 152 (r := (287, .aload_n 1, 1)) rfl
theorem dX16_hashed_288 : decode cX16_hashed 288 = .ok (.getfield 307, 3) := dk_get daX16_hashed 153 (r := (288, .getfield 307, 3)) rfl
theorem dX16_hashed_291 : decode cX16_hashed 291 = .ok (.iload_n 2, 1) := dk_get daX16_hashed 154 (r := (291, .iload_n 2, 1)) rfl
theorem dX16_hashed_292 : decode cX16_hashed 292 = .ok (.iaload, 1) := dk_get daX16_hashed 155 (r := (292, .iaload, 1)) rfl
theorem dX16_hashed_293 : decode cX16_hashed 293 = .ok (.istore 7, 2) := dk_get daX16_hashed 156 (r := (293, .istore 7, 2)) rfl
theorem dX16_hashed_295 : decode cX16_hashed 295 = .ok (.aload_n 0, 1) := dk_get daX16_hashed 157 (r := (295, .aload_n 0, 1)) rfl
theorem dX16_hashed_296 : decode cX16_hashed 296 = .ok (.iload 7, 2) := dk_get daX16_hashed 158 (r := (296, .iload 7, 2)) rfl
theorem dX16_hashed_298 : decode cX16_hashed 298 = .ok (.i2l, 1) := dk_get daX16_hashed 159 (r := (298, .i2l, 1)) rfl
theorem dX16_hashed_299 : decode cX16_hashed 299 = .ok (.invokevirtual 665, 3) := dk_get daX16_hashed 160 (r := (299, .invokevirtual 665, 3)) rfl
theorem dX16_hashed_302 : decode cX16_hashed 302 = .ok (.iconst 0, 1) := dk_get daX16_hashed 161 (r := (302, .iconst 0, 1)) rfl
theorem dX16_hashed_303 : decode cX16_hashed 303 = .ok (.istore 8, 2) := dk_get daX16_hashed 162 (r := (303, .istore 8, 2)) rfl
theorem dX16_hashed_305 : decode cX16_hashed 305 = .ok (.iload 8, 2) := dk_get daX16_hashed 163 (r := (305, .iload 8, 2)) rfl
theorem dX16_hashed_307 : decode cX16_hashed 307 = .ok (.iload 7, 2) := dk_get daX16_hashed 164 (r := (307, .iload 7, 2)) rfl
theorem dX16_hashed_309 : decode cX16_hashed 309 = .ok (.if_icmp .ge 78, 3) := dk_get daX16_hashed 165 (r := (309, .if_icmp .ge 78, 3)) rfl
theorem dX16_hashed_312 : decode cX16_hashed 312 = .ok (.aload_n 0, 1) := dk_get daX16_hashed 166 (r := (312, .aload_n 0, 1)) rfl
theorem dX16_hashed_313 : decode cX16_hashed 313 = .ok (.aload_n 1, 1) := dk_get daX16_hashed 167 (r := (313, .aload_n 1, 1)) rfl
theorem dX16_hashed_314 : decode cX16_hashed 314 = .ok (.iload_n 2, 1) := dk_get daX16_hashed 168 (r := (314, .iload_n 2, 1)) rfl
theorem dX16_hashed_315 : decode cX16_hashed 315 = .ok (.iload 8, 2) := dk_get daX16_hashed 169 (r := (315, .iload 8, 2)) rfl
theorem dX16_hashed_317 : decode cX16_hashed 317 = .ok (.invokevirtual 450, 3) := dk_get daX16_hashed 170 (r := (317, .invokevirtual 450, 3)) rfl
theorem dX16_hashed_320 : decode cX16_hashed 320 = .ok (.istore 9, 2) := dk_get daX16_hashed 171 (r := (320, .istore 9, 2)) rfl
theorem dX16_hashed_322 : decode cX16_hashed 322 = .ok (.aload_n 0, 1) := dk_get daX16_hashed 172 (r := (322, .aload_n 0, 1)) rfl
theorem dX16_hashed_323 : decode cX16_hashed 323 = .ok (.aload_n 1, 1) := dk_get daX16_hashed 173 (r := (323, .aload_n 1, 1)) rfl
theorem dX16_hashed_324 : decode cX16_hashed 324 = .ok (.getfield 275, 3) := dk_get daX16_hashed 174 (r := (324, .getfield 275, 3)) rfl
theorem dX16_hashed_327 : decode cX16_hashed 327 = .ok (.iload 9, 2) := dk_get daX16_hashed 175 (r := (327, .iload 9, 2)) rfl
theorem dX16_hashed_329 : decode cX16_hashed 329 = .ok (.bipush 8, 2) := dk_get daX16_hashed 176 (r := (329, .bipush 8, 2)) rfl
theorem dX16_hashed_331 : decode cX16_hashed 331 = .ok (.iadd, 1) := dk_get daX16_hashed 177 (r := (331, .iadd, 1)) rfl
theorem dX16_hashed_332 : decode cX16_hashed 332 = .ok (.invokevirtual 328, 3) := dk_get daX16_hashed 178 (r := (332, .invokevirtual 328, 3)) rfl
theorem dX16_hashed_335 : decode cX16_hashed 335 = .ok (.istore 10, 2) := dk_get daX16_hashed 179 (r := (335, .istore 10, 2)) rfl
theorem dX16_hashed_337 : decode cX16_hashed 337 = .ok (.iload 5, 2) := dk_get daX16_hashed 180 (r := (337, .iload 5, 2)) rfl
theorem dX16_hashed_339 : decode cX16_hashed 339 = .ok (.iconst 3, 1) := dk_get daX16_hashed 181 (r := (339, .iconst 3, 1)) rfl
theorem dX16_hashed_340 : decode cX16_hashed 340 = .ok (.if_icmp .ne 26, 3) := dk_get daX16_hashed 182 (r := (340, .if_icmp .ne 26, 3)) rfl
theorem dX16_hashed_343 : decode cX16_hashed 343 = .ok (.iload 8, 2) := dk_get daX16_hashed 183 (r := (343, .iload 8, 2)) rfl
theorem dX16_hashed_345 : decode cX16_hashed 345 = .ok (.iload_n 3, 1) := dk_get daX16_hashed 184 (r := (345, .iload_n 3, 1)) rfl
theorem dX16_hashed_346 : decode cX16_hashed 346 = .ok (.if_icmp .ge 20, 3) := dk_get daX16_hashed 185 (r := (346, .if_icmp .ge 20, 3)) rfl
theorem dX16_hashed_349 : decode cX16_hashed 349 = .ok (.aload_n 0, 1) := dk_get daX16_hashed 186 (r := (349, .aload_n 0, 1)) rfl
theorem dX16_hashed_350 : decode cX16_hashed 350 = .ok (.ldc2_w 668, 3) := dk_get daX16_hashed 187 (r := (350, .ldc2_w 668, 3)) rfl
theorem dX16_hashed_353 : decode cX16_hashed 353 = .ok (.bipush 8, 2) := dk_get daX16_hashed 188 (r := (353, .bipush 8, 2)) rfl
theorem dX16_hashed_355 : decode cX16_hashed 355 = .ok (.invokevirtual 656, 3) := dk_get daX16_hashed 189 (r := (355, .invokevirtual 656, 3)) rfl
theorem dX16_hashed_358 : decode cX16_hashed 358 = .ok (.aload_n 0, 1) := dk_get daX16_hashed 190 (r := (358, .aload_n 0, 1)) rfl
theorem dX16_hashed_359 : decode cX16_hashed 359 = .ok (.lconst 0, 1) := dk_get daX16_hashed 191 (r := (359, .lconst 0, 1)) rfl
theorem dX16_hashed_360 : decode cX16_hashed 360 = .ok (.invokevirtual 665, 3) := dk_get daX16_hashed 192 (r := (360, .invokevirtual 665, 3)) rfl
theorem dX16_hashed_363 : decode cX16_hashed 363 = .ok (.goto 18, 3) := dk_get daX16_hashed 193 (r := (363, .goto 18, 3)) rfl
theorem dX16_hashed_366 : decode cX16_hashed 366 = .ok (.aload_n 0, 1) := dk_get daX16_hashed 194 (r := (366, .aload_n 0, 1)) rfl
theorem dX16_hashed_367 : decode cX16_hashed 367 = .ok (.aload_n 1, 1) := dk_get daX16_hashed 195 (r := (367, .aload_n 1, 1)) rfl
theorem dX16_hashed_368 : decode cX16_hashed 368 = .ok (.getfield 275, 3) := dk_get daX16_hashed 196 (r := (368, .getfield 275, 3)) rfl
theorem dX16_hashed_371 : decode cX16_hashed 371 = .ok (.iload 9, 2) := dk_get daX16_hashed 197 (r := (371, .iload 9, 2)) rfl
theorem dX16_hashed_373 : decode cX16_hashed 373 = .ok (.iload 10, 2) := dk_get daX16_hashed 198 (r := (373, .iload 10, 2)) rfl
theorem dX16_hashed_375 : decode cX16_hashed 375 = .ok (.iload 9, 2) := dk_get daX16_hashed 199 (r := (375, .iload 9, 2)) rfl
theorem dX16_hashed_377 : decode cX16_hashed 377 = .ok (.isub, 1) := dk_get daX16_hashed 200 (r := (377, .isub, 1)) rfl
theorem dX16_hashed_378 : decode cX16_hashed 378 = .ok (.invokevirtual 663, 3) := dk_get daX16_hashed 201 (r := (378, .invokevirtual 663, 3)) rfl
theorem dX16_hashed_381 : decode cX16_hashed 381 = .ok (.iinc 8 1, 3) := dk_get daX16_hashed 202 (r := (381, .iinc 8 1, 3)) rfl
theorem dX16_hashed_384 : decode cX16_hashed 384 = .ok (.goto (-79), 3) := dk_get daX16_hashed 203 (r := (384, .goto (-79), 3)) rfl
theorem dX16_hashed_387 : decode cX16_hashed 387 = .ok (.aload_n 0, 1) := dk_get daX16_hashed 204 (r := (387, .aload_n 0, 1)) rfl
theorem dX16_hashed_388 : decode cX16_hashed 388 = .ok (.aload_n 1, 1) := dk_get daX16_hashed 205 (r := (388, .aload_n 1, 1)) rfl
theorem dX16_hashed_389 : decode cX16_hashed 389 = .ok (.getfield 275, 3) := dk_get daX16_hashed 206 (r := (389, .getfield 275, 3)) rfl
theorem dX16_hashed_392 : decode cX16_hashed 392 = .ok (.aload_n 1, 1) := dk_get daX16_hashed 207 (r := (392, .aload_n 1, 1)) rfl
theorem dX16_hashed_393 : decode cX16_hashed 393 = .ok (.getfield 313, 3) := dk_get daX16_hashed 208 (r := (393, .getfield 313, 3)) rfl
theorem dX16_hashed_396 : decode cX16_hashed 396 = .ok (.iload_n 2, 1) := dk_get daX16_hashed 209 (r := (396, .iload_n 2, 1)) rfl
theorem dX16_hashed_397 : decode cX16_hashed 397 = .ok (.iaload, 1) := dk_get daX16_hashed 210 (r := (397, .iaload, 1)) rfl
theorem dX16_hashed_398 : decode cX16_hashed 398 = .ok (.iconst 4, 1) := dk_get daX16_hashed 211 (r := (398, .iconst 4, 1)) rfl
theorem dX16_hashed_399 : decode cX16_hashed 399 = .ok (.isub, 1) := dk_get daX16_hashed 212 (r := (399, .isub, 1)) rfl
theorem dX16_hashed_400 : decode cX16_hashed 400 = .ok (.iconst 4, 1) := dk_get daX16_hashed 213 (r := (400, .iconst 4, 1)) rfl
theorem dX16_hashed_401 : decode cX16_hashed 401 = .ok (.invokevirtual 663, 3) := dk_get daX16_hashed 214 (r := (401, .invokevirtual 663, 3)) rfl
theorem dX16_hashed_404 : decode cX16_hashed 404 = .ok (.aload_n 0, 1) := dk_get daX16_hashed 215 (r := (404, .aload_n 0, 1)) rfl
theorem dX16_hashed_405 : decode cX16_hashed 405 = .ok (.iload 4, 2) := dk_get daX16_hashed 216 (r := (405, .iload 4, 2)) rfl
theorem dX16_hashed_407 : decode cX16_hashed 407 = .ok (.i2l, 1) := dk_get daX16_hashed 217 (r := (407, .i2l, 1)) rfl
theorem dX16_hashed_408 : decode cX16_hashed 408 = .ok (.iconst 4, 1) := dk_get daX16_hashed 218 (r := (408, .iconst 4, 1)) rfl
theorem dX16_hashed_409 : decode cX16_hashed 409 = .ok (.invokevirtual 656, 3) := dk_get daX16_hashed 219 (r := (409, .invokevirtual 656, 3)) rfl
theorem dX16_hashed_412 : decode cX16_hashed 412 = .ok (.aload_n 0, 1) := dk_get daX16_hashed 220 (r := (412, .aload_n 0, 1)) rfl
theorem dX16_hashed_413 : decode cX16_hashed 413 = .ok (.aload_n 0, 1) := dk_get daX16_hashed 221 (r := (413, .aload_n 0, 1)) rfl
theorem dX16_hashed_414 : decode cX16_hashed 414 = .ok (.getfield 650, 3) := dk_get daX16_hashed 222 (r := (414, .getfield 650, 3)) rfl
theorem dX16_hashed_417 : decode cX16_hashed 417 = .ok (.iconst 0, 1) := dk_get daX16_hashed 223 (r := (417, .iconst 0, 1)) rfl
theorem dX16_hashed_418 : decode cX16_hashed 418 = .ok (.aload_n 0, 1) := dk_get daX16_hashed 224 (r := (418, .aload_n 0, 1)) rfl
theorem dX16_hashed_419 : decode cX16_hashed 419 = .ok (.getfield 653, 3) := dk_get daX16_hashed 225 (r := (419, .getfield 653, 3)) rfl
theorem dX16_hashed_422 : decode cX16_hashed 422 = .ok (.aload_n 0, 1) := dk_get daX16_hashed 226 (r := (422, .aload_n 0, 1)) rfl
theorem dX16_hashed_423 : decode cX16_hashed 423 = .ok (.getfield 213, 3) := dk_get daX16_hashed 227 (r := (423, .getfield 213, 3)) rfl
theorem dX16_hashed_426 : decode cX16_hashed 426 = .ok (.iconst 0, 1) := dk_get daX16_hashed 228 (r := (426, .iconst 0, 1)) rfl
theorem dX16_hashed_427 : decode cX16_hashed 427 = .ok (.invokevirtual 319, 3) := dk_get daX16_hashed 229 (r := (427, .invokevirtual 319, 3)) rfl
theorem dX16_hashed_430 : decode cX16_hashed 430 = .ok (.return_, 1) := dk_get daX16_hashed 230 (r := (430, .return_, 1)) rfl
abbrev mX16_isGood : ks_M := (RX16, cX16_isGood, 5, (some .boolean), "isGood")
def drX16_isGood : List (Nat × Instr × Nat) := [(0, .iload_n 2, 1), (1, .ifCond .ne 5, 3), (4, .iconst 0, 1), (5, .ireturn, 1), (6, .aload_n 0, 1), (7, .aload_n 1, 1), (8, .iload_n 2, 1), (9, .invokevirtual 670, 3), (12, .ifCond .ne 10, 3), (15, .aload_n 0, 1), (16, .iconst 1, 1), (17, .putfield 524, 3), (20, .iconst 0, 1), (21, .ireturn, 1), (22, .aload_n 0, 1), (23, .aload_n 0, 1), (24, .getfield 673, 3), (27, .aload_n 0, 1), (28, .getfield 676, 3), (31, .aload_n 0, 1), (32, .getfield 679, 3), (35, .aload_n 1, 1), (36, .iload_n 2, 1), (37, .iconst 1, 1), (38, .isub, 1), (39, .baload, 1), (40, .sipush 255, 3), (43, .iand, 1), (44, .invokevirtual 682, 3), (47, .aload_n 0, 1), (48, .aload_n 1, 1), (49, .aload_n 3, 1), (50, .iload 4, 2), (52, .invokevirtual 686, 3), (55, .ireturn, 1)]
set_option maxRecDepth 100000 in
theorem daX16_isGood : dk_all cX16_isGood drX16_isGood = true := by decide +kernel
theorem dX16_isGood_0 : decode cX16_isGood 0 = .ok (.iload_n 2, 1) := dk_get daX16_isGood 0 (r := (0, .iload_n 2, 1)) rfl
theorem dX16_isGood_1 : decode cX16_isGood 1 = .ok (.ifCond .ne 5, 3) := dk_get daX16_isGood 1 (r := (1, .ifCond .ne 5, 3)) rfl
theorem dX16_isGood_4 : decode cX16_isGood 4 = .ok (.iconst 0, 1) := dk_get daX16_isGood 2 (r := (4, .iconst 0, 1)) rfl
theorem dX16_isGood_5 : decode cX16_isGood 5 = .ok (.ireturn, 1) := dk_get daX16_isGood 3 (r := (5, .ireturn, 1)) rfl
theorem dX16_isGood_6 : decode cX16_isGood 6 = .ok (.aload_n 0, 1) := dk_get daX16_isGood 4 (r := (6, .aload_n 0, 1)) rfl
theorem dX16_isGood_7 : decode cX16_isGood 7 = .ok (.aload_n 1, 1) := dk_get daX16_isGood 5 (r := (7, .aload_n 1, 1)) rfl
theorem dX16_isGood_8 : decode cX16_isGood 8 = .ok (.iload_n 2, 1) := dk_get daX16_isGood 6 (r := (8, .iload_n 2, 1)) rfl
theorem dX16_isGood_9 : decode cX16_isGood 9 = .ok (.invokevirtual 670, 3) := dk_get daX16_isGood 7 (r := (9, .invokevirtual 670, 3)) rfl
theorem dX16_isGood_12 : decode cX16_isGood 12 = .ok (.ifCond .ne 10, 3) := dk_get daX16_isGood 8 (r := (12, .ifCond .ne 10, 3)) rfl
theorem dX16_isGood_15 : decode cX16_isGood 15 = .ok (.aload_n 0, 1) := dk_get daX16_isGood 9 (r := (15, .aload_n 0, 1)) rfl
theorem dX16_isGood_16 : decode cX16_isGood 16 = .ok (.iconst 1, 1) := dk_get daX16_isGood 10 (r := (16, .iconst 1, 1)) rfl
theorem dX16_isGood_17 : decode cX16_isGood 17 = .ok (.putfield 524, 3) := dk_get daX16_isGood 11 (r := (17, .putfield 524, 3)) rfl
theorem dX16_isGood_20 : decode cX16_isGood 20 = .ok (.iconst 0, 1) := dk_get daX16_isGood 12 (r := (20, .iconst 0, 1)) rfl
theorem dX16_isGood_21 : decode cX16_isGood 21 = .ok (.ireturn, 1) := dk_get daX16_isGood 13 (r := (21, .ireturn, 1)) rfl
theorem dX16_isGood_22 : decode cX16_isGood 22 = .ok (.aload_n 0, 1) := dk_get daX16_isGood 14 (r := (22, .aload_n 0, 1)) rfl
theorem dX16_isGood_23 : decode cX16_isGood 23 = .ok (.aload_n 0, 1) := dk_get daX16_isGood 15 (r := (23, .aload_n 0, 1)) rfl
theorem dX16_isGood_24 : decode cX16_isGood 24 = .ok (.getfield 673, 3) := dk_get daX16_isGood 16 (r := (24, .getfield 673, 3)) rfl
theorem dX16_isGood_27 : decode cX16_isGood 27 = .ok (.aload_n 0, 1) := dk_get daX16_isGood 17 (r := (27, .aload_n 0, 1)) rfl
theorem dX16_isGood_28 : decode cX16_isGood 28 = .ok (.getfield 676, 3) := dk_get daX16_isGood 18 (r := (28, .getfield 676, 3)) rfl
theorem dX16_isGood_31 : decode cX16_isGood 31 = .ok (.aload_n 0, 1) := dk_get daX16_isGood 19 (r := (31, .aload_n 0, 1)) rfl
theorem dX16_isGood_32 : decode cX16_isGood 32 = .ok (.getfield 679, 3) := dk_get daX16_isGood 20 (r := (32, .getfield 679, 3)) rfl
theorem dX16_isGood_35 : decode cX16_isGood 35 = .ok (.aload_n 1, 1) := dk_get daX16_isGood 21 (r := (35, .aload_n 1, 1)) rfl
theorem dX16_isGood_36 : decode cX16_isGood 36 = .ok (.iload_n 2, 1) := dk_get daX16_isGood 22 (r := (36, .iload_n 2, 1)) rfl
theorem dX16_isGood_37 : decode cX16_isGood 37 = .ok (.iconst 1, 1) := dk_get daX16_isGood 23 (r := (37, .iconst 1, 1)) rfl
theorem dX16_isGood_38 : decode cX16_isGood 38 = .ok (.isub, 1) := dk_get daX16_isGood 24 (r := (38, .isub, 1)) rfl
theorem dX16_isGood_39 : decode cX16_isGood 39 = .ok (.baload, 1) := dk_get daX16_isGood 25 (r := (39, .baload, 1)) rfl
theorem dX16_isGood_40 : decode cX16_isGood 40 = .ok (.sipush 255, 3) := dk_get daX16_isGood 26 (r := (40, .sipush 255, 3)) rfl
theorem dX16_isGood_43 : decode cX16_isGood 43 = .ok (.iand, 1) := dk_get daX16_isGood 27 (r := (43, .iand, 1)) rfl
theorem dX16_isGood_44 : decode cX16_isGood 44 = .ok (.invokevirtual 682, 3) := dk_get daX16_isGood 28 (r := (44, .invokevirtual 682, 3)) rfl
theorem dX16_isGood_47 : decode cX16_isGood 47 = .ok (.aload_n 0, 1) := dk_get daX16_isGood 29 (r := (47, .aload_n 0, 1)) rfl
theorem dX16_isGood_48 : decode cX16_isGood 48 = .ok (.aload_n 1, 1) := dk_get daX16_isGood 30 (r := (48, .aload_n 1, 1)) rfl
theorem dX16_isGood_49 : decode cX16_isGood 49 = .ok (.aload_n 3, 1) := dk_get daX16_isGood 31 (r := (49, .aload_n 3, 1)) rfl
theorem dX16_isGood_50 : decode cX16_isGood 50 = .ok (.iload 4, 2) := dk_get daX16_isGood 32 (r := (50, .iload 4, 2)) rfl
theorem dX16_isGood_52 : decode cX16_isGood 52 = .ok (.invokevirtual 686, 3) := dk_get daX16_isGood 33 (r := (52, .invokevirtual 686, 3)) rfl
theorem dX16_isGood_55 : decode cX16_isGood 55 = .ok (.ireturn, 1) := dk_get daX16_isGood 34 (r := (55, .ireturn, 1)) rfl
abbrev mX16_asked : ks_M := (RX16, cX16_asked, 7, none, "asked")
def drX16_asked : List (Nat × Instr × Nat) := [(0, .aload_n 0, 1), (1, .getfield 527, 3), (4, .aload_n 0, 1), (5, .getfield 521, 3), (8, .iconst 1, 1), (9, .isub, 1), (10, .aaload, 1), (11, .astore_n 2, 1), (12, .aload_n 0, 1), (13, .getfield 527, 3), (16, .aload_n 0, 1), (17, .getfield 521, 3), (20, .iconst 2, 1), (21, .isub, 1), (22, .aaload, 1), (23, .astore_n 3, 1), (24, .aload_n 0, 1), (25, .getfield 535, 3), (28, .aload_n 0, 1), (29, .getfield 521, 3), (32, .iconst 1, 1), (33, .isub, 1), (34, .iaload, 1), (35, .istore 4, 2), (37, .aload_n 0, 1), (38, .getfield 535, 3), (41, .aload_n 0, 1), (42, .getfield 521, 3), (45, .iconst 2, 1), (46, .isub, 1), (47, .iaload, 1), (48, .istore 5, 2), (50, .aload_n 0, 1), (51, .aload_n 0, 1), (52, .getfield 548, 3), (55, .aload_n 0, 1), (56, .getfield 551, 3), (59, .aload_n 0, 1), (60, .getfield 554, 3), (63, .aload_n 0, 1), (64, .getfield 551, 3), (67, .isub, 1), (68, .invokevirtual 690, 3), (71, .aload_n 0, 1), (72, .aload_n 3, 1), (73, .iload 5, 2), (75, .invokevirtual 693, 3), (78, .aload_n 0, 1), (79, .aload_n 3, 1), (80, .iload 5, 2), (82, .aload_n 2, 1), (83, .iload 4, 2), (85, .invokevirtual 696, 3), (88, .istore 6, 2), (90, .aload_n 0, 1), (91, .dup, 1), (92, .getfield 521, 3), (95, .iconst 2, 1), (96, .isub, 1), (97, .putfield 521, 3), (100, .aload_n 0, 1), (101, .getfield 524, 3), (104, .ifCond .ne 21, 3), (107, .aload_n 0, 1), (108, .iload 6, 2), (110, .iload_n 1, 1), (111, .sipush 173, 3), (114, .if_icmp .ne 7, 3), (117, .iconst 1, 1), (118, .goto 4, 3), (121, .iconst 0, 1), (122, .invokevirtual 595, 3), (125, .return_, 1)]
set_option maxRecDepth 100000 in
theorem daX16_asked : dk_all cX16_asked drX16_asked = true := by decide +kernel
theorem dX16_asked_0 : decode cX16_asked 0 = .ok (.aload_n 0, 1) := dk_get daX16_asked 0 (r := (0, .aload_n 0, 1)) rfl
theorem dX16_asked_1 : decode cX16_asked 1 = .ok (.getfield 527, 3) := dk_get daX16_asked 1 (r := (1, .getfield 527, 3)) rfl
theorem dX16_asked_4 : decode cX16_asked 4 = .ok (.aload_n 0, 1) := dk_get daX16_asked 2 (r := (4, .aload_n 0, 1)) rfl
theorem dX16_asked_5 : decode cX16_asked 5 = .ok (.getfield 521, 3) := dk_get daX16_asked 3 (r := (5, .getfield 521, 3)) rfl
theorem dX16_asked_8 : decode cX16_asked 8 = .ok (.iconst 1, 1) := dk_get daX16_asked 4 (r := (8, .iconst 1, 1)) rfl
theorem dX16_asked_9 : decode cX16_asked 9 = .ok (.isub, 1) := dk_get daX16_asked 5 (r := (9, .isub, 1)) rfl
theorem dX16_asked_10 : decode cX16_asked 10 = .ok (.aaload, 1) := dk_get daX16_asked 6 (r := (10, .aaload, 1)) rfl
theorem dX16_asked_11 : decode cX16_asked 11 = .ok (.astore_n 2, 1) := dk_get daX16_asked 7 (r := (11, .astore_n 2, 1)) rfl
theorem dX16_asked_12 : decode cX16_asked 12 = .ok (.aload_n 0, 1) := dk_get daX16_asked 8 (r := (12, .aload_n 0, 1)) rfl
theorem dX16_asked_13 : decode cX16_asked 13 = .ok (.getfield 527, 3) := dk_get daX16_asked 9 (r := (13, .getfield 527, 3)) rfl
theorem dX16_asked_16 : decode cX16_asked 16 = .ok (.aload_n 0, 1) := dk_get daX16_asked 10 (r := (16, .aload_n 0, 1)) rfl
theorem dX16_asked_17 : decode cX16_asked 17 = .ok (.getfield 521, 3) := dk_get daX16_asked 11 (r := (17, .getfield 521, 3)) rfl
theorem dX16_asked_20 : decode cX16_asked 20 = .ok (.iconst 2, 1) := dk_get daX16_asked 12 (r := (20, .iconst 2, 1)) rfl
theorem dX16_asked_21 : decode cX16_asked 21 = .ok (.isub, 1) := dk_get daX16_asked 13 (r := (21, .isub, 1)) rfl
theorem dX16_asked_22 : decode cX16_asked 22 = .ok (.aaload, 1) := dk_get daX16_asked 14 (r := (22, .aaload, 1)) rfl
theorem dX16_asked_23 : decode cX16_asked 23 = .ok (.astore_n 3, 1) := dk_get daX16_asked 15 (r := (23, .astore_n 3, 1)) rfl
theorem dX16_asked_24 : decode cX16_asked 24 = .ok (.aload_n 0, 1) := dk_get daX16_asked 16 (r := (24, .aload_n 0, 1)) rfl
theorem dX16_asked_25 : decode cX16_asked 25 = .ok (.getfield 535, 3) := dk_get daX16_asked 17 (r := (25, .getfield 535, 3)) rfl
theorem dX16_asked_28 : decode cX16_asked 28 = .ok (.aload_n 0, 1) := dk_get daX16_asked 18 (r := (28, .aload_n 0, 1)) rfl
theorem dX16_asked_29 : decode cX16_asked 29 = .ok (.getfield 521, 3) := dk_get daX16_asked 19 (r := (29, .getfield 521, 3)) rfl
theorem dX16_asked_32 : decode cX16_asked 32 = .ok (.iconst 1, 1) := dk_get daX16_asked 20 (r := (32, .iconst 1, 1)) rfl
theorem dX16_asked_33 : decode cX16_asked 33 = .ok (.isub, 1) := dk_get daX16_asked 21 (r := (33, .isub, 1)) rfl
theorem dX16_asked_34 : decode cX16_asked 34 = .ok (.iaload, 1) := dk_get daX16_asked 22 (r := (34, .iaload, 1)) rfl
theorem dX16_asked_35 : decode cX16_asked 35 = .ok (.istore 4, 2) := dk_get daX16_asked 23 (r := (35, .istore 4, 2)) rfl
theorem dX16_asked_37 : decode cX16_asked 37 = .ok (.aload_n 0, 1) := dk_get daX16_asked 24 (r := (37, .aload_n 0, 1)) rfl
theorem dX16_asked_38 : decode cX16_asked 38 = .ok (.getfield 535, 3) := dk_get daX16_asked 25 (r := (38, .getfield 535, 3)) rfl
theorem dX16_asked_41 : decode cX16_asked 41 = .ok (.aload_n 0, 1) := dk_get daX16_asked 26 (r := (41, .aload_n 0, 1)) rfl
theorem dX16_asked_42 : decode cX16_asked 42 = .ok (.getfield 521, 3) := dk_get daX16_asked 27 (r := (42, .getfield 521, 3)) rfl
theorem dX16_asked_45 : decode cX16_asked 45 = .ok (.iconst 2, 1) := dk_get daX16_asked 28 (r := (45, .iconst 2, 1)) rfl
theorem dX16_asked_46 : decode cX16_asked 46 = .ok (.isub, 1) := dk_get daX16_asked 29 (r := (46, .isub, 1)) rfl
theorem dX16_asked_47 : decode cX16_asked 47 = .ok (.iaload, 1) := dk_get daX16_asked 30 (r := (47, .iaload, 1)) rfl
theorem dX16_asked_48 : decode cX16_asked 48 = .ok (.istore 5, 2) := dk_get daX16_asked 31 (r := (48, .istore 5, 2)) rfl
theorem dX16_asked_50 : decode cX16_asked 50 = .ok (.aload_n 0, 1) := dk_get daX16_asked 32 (r := (50, .aload_n 0, 1)) rfl
theorem dX16_asked_51 : decode cX16_asked 51 = .ok (.aload_n 0, 1) := dk_get daX16_asked 33 (r := (51, .aload_n 0, 1)) rfl
theorem dX16_asked_52 : decode cX16_asked 52 = .ok (.getfield 548, 3) := dk_get daX16_asked 34 (r := (52, .getfield 548, 3)) rfl
theorem dX16_asked_55 : decode cX16_asked 55 = .ok (.aload_n 0, 1) := dk_get daX16_asked 35 (r := (55, .aload_n 0, 1)) rfl
theorem dX16_asked_56 : decode cX16_asked 56 = .ok (.getfield 551, 3) := dk_get daX16_asked 36 (r := (56, .getfield 551, 3)) rfl
theorem dX16_asked_59 : decode cX16_asked 59 = .ok (.aload_n 0, 1) := dk_get daX16_asked 37 (r := (59, .aload_n 0, 1)) rfl
theorem dX16_asked_60 : decode cX16_asked 60 = .ok (.getfield 554, 3) := dk_get daX16_asked 38 (r := (60, .getfield 554, 3)) rfl
theorem dX16_asked_63 : decode cX16_asked 63 = .ok (.aload_n 0, 1) := dk_get daX16_asked 39 (r := (63, .aload_n 0, 1)) rfl
theorem dX16_asked_64 : decode cX16_asked 64 = .ok (.getfield 551, 3) := dk_get daX16_asked 40 (r := (64, .getfield 551, 3)) rfl
theorem dX16_asked_67 : decode cX16_asked 67 = .ok (.isub, 1) := dk_get daX16_asked 41 (r := (67, .isub, 1)) rfl
theorem dX16_asked_68 : decode cX16_asked 68 = .ok (.invokevirtual 690, 3) := dk_get daX16_asked 42 (r := (68, .invokevirtual 690, 3)) rfl
theorem dX16_asked_71 : decode cX16_asked 71 = .ok (.aload_n 0, 1) := dk_get daX16_asked 43 (r := (71, .aload_n 0, 1)) rfl
theorem dX16_asked_72 : decode cX16_asked 72 = .ok (.aload_n 3, 1) := dk_get daX16_asked 44 (r := (72, .aload_n 3, 1)) rfl
theorem dX16_asked_73 : decode cX16_asked 73 = .ok (.iload 5, 2) := dk_get daX16_asked 45 (r := (73, .iload 5, 2)) rfl
theorem dX16_asked_75 : decode cX16_asked 75 = .ok (.invokevirtual 693, 3) := dk_get daX16_asked 46 (r := (75, .invokevirtual 693, 3)) rfl
theorem dX16_asked_78 : decode cX16_asked 78 = .ok (.aload_n 0, 1) := dk_get daX16_asked 47 (r := (78, .aload_n 0, 1)) rfl
theorem dX16_asked_79 : decode cX16_asked 79 = .ok (.aload_n 3, 1) := dk_get daX16_asked 48 (r := (79, .aload_n 3, 1)) rfl
theorem dX16_asked_80 : decode cX16_asked 80 = .ok (.iload 5, 2) := dk_get daX16_asked 49 (r := (80, .iload 5, 2)) rfl
theorem dX16_asked_82 : decode cX16_asked 82 = .ok (.aload_n 2, 1) := dk_get daX16_asked 50 (r := (82, .aload_n 2, 1)) rfl
theorem dX16_asked_83 : decode cX16_asked 83 = .ok (.iload 4, 2) := dk_get daX16_asked 51 (r := (83, .iload 4, 2)) rfl
theorem dX16_asked_85 : decode cX16_asked 85 = .ok (.invokevirtual 696, 3) := dk_get daX16_asked 52 (r := (85, .invokevirtual 696, 3)) rfl
theorem dX16_asked_88 : decode cX16_asked 88 = .ok (.istore 6, 2) := dk_get daX16_asked 53 (r := (88, .istore 6, 2)) rfl
theorem dX16_asked_90 : decode cX16_asked 90 = .ok (.aload_n 0, 1) := dk_get daX16_asked 54 (r := (90, .aload_n 0, 1)) rfl
theorem dX16_asked_91 : decode cX16_asked 91 = .ok (.dup, 1) := dk_get daX16_asked 55 (r := (91, .dup, 1)) rfl
theorem dX16_asked_92 : decode cX16_asked 92 = .ok (.getfield 521, 3) := dk_get daX16_asked 56 (r := (92, .getfield 521, 3)) rfl
theorem dX16_asked_95 : decode cX16_asked 95 = .ok (.iconst 2, 1) := dk_get daX16_asked 57 (r := (95, .iconst 2, 1)) rfl
theorem dX16_asked_96 : decode cX16_asked 96 = .ok (.isub, 1) := dk_get daX16_asked 58 (r := (96, .isub, 1)) rfl
theorem dX16_asked_97 : decode cX16_asked 97 = .ok (.putfield 521, 3) := dk_get daX16_asked 59 (r := (97, .putfield 521, 3)) rfl
theorem dX16_asked_100 : decode cX16_asked 100 = .ok (.aload_n 0, 1) := dk_get daX16_asked 60 (r := (100, .aload_n 0, 1)) rfl
theorem dX16_asked_101 : decode cX16_asked 101 = .ok (.getfield 524, 3) := dk_get daX16_asked 61 (r := (101, .getfield 524, 3)) rfl
theorem dX16_asked_104 : decode cX16_asked 104 = .ok (.ifCond .ne 21, 3) := dk_get daX16_asked 62 (r := (104, .ifCond .ne 21, 3)) rfl
theorem dX16_asked_107 : decode cX16_asked 107 = .ok (.aload_n 0, 1) := dk_get daX16_asked 63 (r := (107, .aload_n 0, 1)) rfl
theorem dX16_asked_108 : decode cX16_asked 108 = .ok (.iload 6, 2) := dk_get daX16_asked 64 (r := (108, .iload 6, 2)) rfl
theorem dX16_asked_110 : decode cX16_asked 110 = .ok (.iload_n 1, 1) := dk_get daX16_asked 65 (r := (110, .iload_n 1, 1)) rfl
theorem dX16_asked_111 : decode cX16_asked 111 = .ok (.sipush 173, 3) := dk_get daX16_asked 66 (r := (111, .sipush 173, 3)) rfl
theorem dX16_asked_114 : decode cX16_asked 114 = .ok (.if_icmp .ne 7, 3) := dk_get daX16_asked 67 (r := (114, .if_icmp .ne 7, 3)) rfl
theorem dX16_asked_117 : decode cX16_asked 117 = .ok (.iconst 1, 1) := dk_get daX16_asked 68 (r := (117, .iconst 1, 1)) rfl
theorem dX16_asked_118 : decode cX16_asked 118 = .ok (.goto 4, 3) := dk_get daX16_asked 69 (r := (118, .goto 4, 3)) rfl
theorem dX16_asked_121 : decode cX16_asked 121 = .ok (.iconst 0, 1) := dk_get daX16_asked 70 (r := (121, .iconst 0, 1)) rfl
theorem dX16_asked_122 : decode cX16_asked 122 = .ok (.invokevirtual 595, 3) := dk_get daX16_asked 71 (r := (122, .invokevirtual 595, 3)) rfl
theorem dX16_asked_125 : decode cX16_asked 125 = .ok (.return_, 1) := dk_get daX16_asked 72 (r := (125, .return_, 1)) rfl
abbrev mX16_several : ks_M := (RX16, cX16_several, 14, none, "several")
def drX16_several : List (Nat × Instr × Nat) := [(0, .aload_n 0, 1), (1, .iconst 1, 1), (2, .invokevirtual 582, 3), (5, .ifCond .ne 4, 3), (8, .return_, 1), (9, .aload_n 0, 1), (10, .iconst 0, 1), (11, .iconst 4, 1), (12, .invokevirtual 617, 3), (15, .lstore_n 2, 1), (16, .aload_n 0, 1), (17, .getfield 524, 3), (20, .ifCond .ne 17, 3), (23, .lload_n 2, 1), (24, .lconst 0, 1), (25, .lcmp, 1), (26, .ifCond .lt 11, 3), (29, .lload_n 2, 1), (30, .ldc2_w 700, 3), (33, .lcmp, 1), (34, .ifCond .le 9, 3), (37, .aload_n 0, 1), (38, .iconst 1, 1), (39, .putfield 524, 3), (42, .return_, 1), (43, .aload_n 0, 1), (44, .dup, 1), (45, .getfield 557, 3), (48, .lload_n 2, 1), (49, .l2i, 1), (50, .iadd, 1), (51, .putfield 557, 3), (54, .aload_n 0, 1), (55, .getfield 557, 3), (58, .sipush 201, 3), (61, .if_icmp .gt 14, 3), (64, .aload_n 0, 1), (65, .lload_n 2, 1), (66, .l2i, 1), (67, .iconst 2, 1), (68, .iadd, 1), (69, .invokevirtual 582, 3), (72, .ifCond .ne 9, 3), (75, .aload_n 0, 1), (76, .iconst 1, 1), (77, .putfield 524, 3), (80, .return_, 1), (81, .aload_n 0, 1), (82, .lload_n 2, 1), (83, .l2i, 1), (84, .iconst 1, 1), (85, .iadd, 1), (86, .iconst 4, 1), (87, .invokevirtual 617, 3), (90, .lstore 4, 2), (92, .aload_n 0, 1), (93, .getfield 524, 3), (96, .ifCond .ne 31, 3), (99, .lload 4, 2), (101, .lconst 0, 1), (102, .lcmp, 1), (103, .ifCond .lt 24, 3), (106, .lload 4, 2), (108, .lload_n 2, 1), (109, .lcmp, 1), (110, .ifCond .gt 17, 3), (113, .aload_n 0, 1), (114, .lload_n 2, 1), (115, .lload 4, 2), (117, .ladd, 1), (118, .l2i, 1), (119, .iconst 3, 1), (120, .iadd, 1), (121, .invokevirtual 582, 3), (124, .ifCond .ne 9, 3), (127, .aload_n 0, 1), (128, .iconst 1, 1), (129, .putfield 524, 3), (132, .return_, 1), (133, .aload_n 0, 1), (134, .getfield 521, 3), (137, .iconst 2, 1), (138, .isub, 1), (139, .istore 6, 2), (141, .aload_n 0, 1), (142, .getfield 521, 3), (145, .iconst 3, 1), (146, .isub, 1), (147, .lload_n 2, 1), (148, .l2i, 1), (149, .isub, 1), (150, .istore 7, 2), (152, .lload 4, 2), (154, .l2i, 1), (155, .istore 8, 2), (157, .lload_n 2, 1), (158, .l2i, 1), (159, .istore 9, 2), (161, .iconst 1, 1), (162, .istore 10, 2), (164, .iload 10, 2), (166, .ifCond .eq 158, 3), (169, .iload 8, 2), (171, .ifCond .le 153, 3), (174, .iload 7, 2), (176, .lload 4, 2), (178, .l2i, 1), (179, .iload 8, 2), (181, .isub, 1), (182, .isub, 1), (183, .istore 11, 2), (185, .iload 6, 2), (187, .lload_n 2, 1), (188, .l2i, 1), (189, .iload 9, 2), (191, .isub, 1), (192, .isub, 1), (193, .istore 12, 2), (195, .aload_n 0, 1), (196, .aload_n 0, 1), (197, .getfield 548, 3), (200, .aload_n 0, 1), (201, .getfield 551, 3), (204, .aload_n 0, 1), (205, .getfield 554, 3), (208, .aload_n 0, 1), (209, .getfield 551, 3), (212, .isub, 1), (213, .invokevirtual 690, 3), (216, .iconst 0, 1), (217, .istore 13, 2), (219, .iload 13, 2), (221, .i2l, 1), (222, .lload 4, 2), (224, .lcmp, 1), (225, .ifCond .ge 33, 3), (228, .aload_n 0, 1), (229, .aload_n 0, 1), (230, .getfield 527, 3), (233, .iload 7, 2), (235, .iload 13, 2), (237, .isub, 1), (238, .aaload, 1), (239, .aload_n 0, 1), (240, .getfield 535, 3), (243, .iload 7, 2), (245, .iload 13, 2), (247, .isub, 1), (248, .iaload, 1), (249, .invokevirtual 693, 3), (252, .iinc 13 1, 3), (255, .goto (-36), 3), (258, .aload_n 0, 1), (259, .aload_n 0, 1), (260, .getfield 527, 3), (263, .iload 11, 2), (265, .aaload, 1), (266, .aload_n 0, 1), (267, .getfield 535, 3), (270, .iload 11, 2), (272, .iaload, 1), (273, .aload_n 0, 1), (274, .getfield 527, 3), (277, .iload 12, 2), (279, .aaload, 1), (280, .aload_n 0, 1), (281, .getfield 535, 3), (284, .iload 12, 2), (286, .iaload, 1), (287, .invokevirtual 696, 3), (290, .ifCond .eq 6, 3), (293, .iinc 8 (-1), 3), (296, .aload_n 0, 1), (297, .getfield 524, 3), (300, .ifCond .eq 4, 3), (303, .return_, 1), (304, .iinc 9 (-1), 3), (307, .iload 8, 2), (309, .iload 9, 2), (311, .if_icmp .gt 7, 3), (314, .iconst 1, 1), (315, .goto 4, 3), (318, .iconst 0, 1), (319, .istore 10, 2), (321, .goto (-157), 3), (324, .aload_n 0, 1), (325, .dup, 1), (326, .getfield 521, 3), (329, .lload_n 2, 1), (330, .lload 4, 2), (332, .ladd, 1), (333, .l2i, 1), (334, .iconst 3, 1), (335, .iadd, 1), (336, .isub, 1), (337, .putfield 521, 3), (340, .aload_n 0, 1), (341, .iload 10, 2), (343, .iload_n 1, 1), (344, .sipush 175, 3), (347, .if_icmp .ne 7, 3), (350, .iconst 1, 1), (351, .goto 4, 3), (354, .iconst 0, 1), (355, .invokevirtual 595, 3), (358, .return_, 1)]
set_option maxRecDepth 100000 in
theorem daX16_several : dk_all cX16_several drX16_several = true := by decide +kernel
theorem dX16_several_0 : decode cX16_several 0 = .ok (.aload_n 0, 1) := dk_get daX16_several 0 (r := (0, .aload_n 0, 1)) rfl
theorem dX16_several_1 : decode cX16_several 1 = .ok (.iconst 1, 1) := dk_get daX16_several 1 (r := (1, .iconst 1, 1)) rfl
theorem dX16_several_2 : decode cX16_several 2 = .ok (.invokevirtual 582, 3) := dk_get daX16_several 2 (r := (2, .invokevirtual 582, 3)) rfl
theorem dX16_several_5 : decode cX16_several 5 = .ok (.ifCond .ne 4, 3) := dk_get daX16_several 3 (r := (5, .ifCond .ne 4, 3)) rfl
theorem dX16_several_8 : decode cX16_several 8 = .ok (.return_, 1) := dk_get daX16_several 4 (r := (8, .return_, 1)) rfl
theorem dX16_several_9 : decode cX16_several 9 = .ok (.aload_n 0, 1) := dk_get daX16_several 5 (r := (9, .aload_n 0, 1)) rfl
theorem dX16_several_10 : decode cX16_several 10 = .ok (.iconst 0, 1) := dk_get daX16_several 6 (r := (10, .iconst 0, 1)) rfl
theorem dX16_several_11 : decode cX16_several 11 = .ok (.iconst 4, 1) := dk_get daX16_several 7 (r := (11, .iconst 4, 1)) rfl
theorem dX16_several_12 : decode cX16_several 12 = .ok (.invokevirtual 617, 3) := dk_get daX16_several 8 (r := (12, .invokevirtual 617, 3)) rfl
theorem dX16_several_15 : decode cX16_several 15 = .ok (.lstore_n 2, 1) := dk_get daX16_several 9 (r := (15, .lstore_n 2, 1)) rfl
theorem dX16_several_16 : decode cX16_several 16 = .ok (.aload_n 0, 1) := dk_get daX16_several 10 (r := (16, .aload_n 0, 1)) rfl
theorem dX16_several_17 : decode cX16_several 17 = .ok (.getfield 524, 3) := dk_get daX16_several 11 (r := (17, .getfield 524, 3)) rfl
theorem dX16_several_20 : decode cX16_several 20 = .ok (.ifCond .ne 17, 3) := dk_get daX16_several 12 (r := (20, .ifCond .ne 17, 3)) rfl
theorem dX16_several_23 : decode cX16_several 23 = .ok (.lload_n 2, 1) := dk_get daX16_several 13 (r := (23, .lload_n 2, 1)) rfl
theorem dX16_several_24 : decode cX16_several 24 = .ok (.lconst 0, 1) := dk_get daX16_several 14 (r := (24, .lconst 0, 1)) rfl
theorem dX16_several_25 : decode cX16_several 25 = .ok (.lcmp, 1) := dk_get daX16_several 15 (r := (25, .lcmp, 1)) rfl
theorem dX16_several_26 : decode cX16_several 26 = .ok (.ifCond .lt 11, 3) := dk_get daX16_several 16 (r := (26, .ifCond .lt 11, 3)) rfl
theorem dX16_several_29 : decode cX16_several 29 = .ok (.lload_n 2, 1) := dk_get daX16_several 17 (r := (29, .lload_n 2, 1)) rfl
theorem dX16_several_30 : decode cX16_several 30 = .ok (.ldc2_w 700, 3) := dk_get daX16_several 18 (r := (30, .ldc2_w 700, 3)) rfl
theorem dX16_several_33 : decode cX16_several 33 = .ok (.lcmp, 1) := dk_get daX16_several 19 (r := (33, .lcmp, 1)) rfl
theorem dX16_several_34 : decode cX16_several 34 = .ok (.ifCond .le 9, 3) := dk_get daX16_several 20 (r := (34, .ifCond .le 9, 3)) rfl
theorem dX16_several_37 : decode cX16_several 37 = .ok (.aload_n 0, 1) := dk_get daX16_several 21 (r := (37, .aload_n 0, 1)) rfl
theorem dX16_several_38 : decode cX16_several 38 = .ok (.iconst 1, 1) := dk_get daX16_several 22 (r := (38, .iconst 1, 1)) rfl
theorem dX16_several_39 : decode cX16_several 39 = .ok (.putfield 524, 3) := dk_get daX16_several 23 (r := (39, .putfield 524, 3)) rfl
theorem dX16_several_42 : decode cX16_several 42 = .ok (.return_, 1) := dk_get daX16_several 24 (r := (42, .return_, 1)) rfl
theorem dX16_several_43 : decode cX16_several 43 = .ok (.aload_n 0, 1) := dk_get daX16_several 25 (r := (43, .aload_n 0, 1)) rfl
theorem dX16_several_44 : decode cX16_several 44 = .ok (.dup, 1) := dk_get daX16_several 26 (r := (44, .dup, 1)) rfl
theorem dX16_several_45 : decode cX16_several 45 = .ok (.getfield 557, 3) := dk_get daX16_several 27 (r := (45, .getfield 557, 3)) rfl
theorem dX16_several_48 : decode cX16_several 48 = .ok (.lload_n 2, 1) := dk_get daX16_several 28 (r := (48, .lload_n 2, 1)) rfl
theorem dX16_several_49 : decode cX16_several 49 = .ok (.l2i, 1) := dk_get daX16_several 29 (r := (49, .l2i, 1)) rfl
theorem dX16_several_50 : decode cX16_several 50 = .ok (.iadd, 1) := dk_get daX16_several 30 (r := (50, .iadd, 1)) rfl
theorem dX16_several_51 : decode cX16_several 51 = .ok (.putfield 557, 3) := dk_get daX16_several 31 (r := (51, .putfield 557, 3)) rfl
theorem dX16_several_54 : decode cX16_several 54 = .ok (.aload_n 0, 1) := dk_get daX16_several 32 (r := (54, .aload_n 0, 1)) rfl
theorem dX16_several_55 : decode cX16_several 55 = .ok (.getfield 557, 3) := dk_get daX16_several 33 (r := (55, .getfield 557, 3)) rfl
theorem dX16_several_58 : decode cX16_several 58 = .ok (.sipush 201, 3) := dk_get daX16_several 34 (r := (58, .sipush 201, 3)) rfl
theorem dX16_several_61 : decode cX16_several 61 = .ok (.if_icmp .gt 14, 3) := dk_get daX16_several 35 (r := (61, .if_icmp .gt 14, 3)) rfl
theorem dX16_several_64 : decode cX16_several 64 = .ok (.aload_n 0, 1) := dk_get daX16_several 36 (r := (64, .aload_n 0, 1)) rfl
theorem dX16_several_65 : decode cX16_several 65 = .ok (.lload_n 2, 1) := dk_get daX16_several 37 (r := (65, .lload_n 2, 1)) rfl
theorem dX16_several_66 : decode cX16_several 66 = .ok (.l2i, 1) := dk_get daX16_several 38 (r := (66, .l2i, 1)) rfl
theorem dX16_several_67 : decode cX16_several 67 = .ok (.iconst 2, 1) := dk_get daX16_several 39 (r := (67, .iconst 2, 1)) rfl
theorem dX16_several_68 : decode cX16_several 68 = .ok (.iadd, 1) := dk_get daX16_several 40 (r := (68, .iadd, 1)) rfl
theorem dX16_several_69 : decode cX16_several 69 = .ok (.invokevirtual 582, 3) := dk_get daX16_several 41 (r := (69, .invokevirtual 582, 3)) rfl
theorem dX16_several_72 : decode cX16_several 72 = .ok (.ifCond .ne 9, 3) := dk_get daX16_several 42 (r := (72, .ifCond .ne 9, 3)) rfl
theorem dX16_several_75 : decode cX16_several 75 = .ok (.aload_n 0, 1) := dk_get daX16_several 43 (r := (75, .aload_n 0, 1)) rfl
theorem dX16_several_76 : decode cX16_several 76 = .ok (.iconst 1, 1) := dk_get daX16_several 44 (r := (76, .iconst 1, 1)) rfl
theorem dX16_several_77 : decode cX16_several 77 = .ok (.putfield 524, 3) := dk_get daX16_several 45 (r := (77, .putfield 524, 3)) rfl
theorem dX16_several_80 : decode cX16_several 80 = .ok (.return_, 1) := dk_get daX16_several 46 (r := (80, .return_, 1)) rfl
theorem dX16_several_81 : decode cX16_several 81 = .ok (.aload_n 0, 1) := dk_get daX16_several 47 (r := (81, .aload_n 0, 1)) rfl
theorem dX16_several_82 : decode cX16_several 82 = .ok (.lload_n 2, 1) := dk_get daX16_several 48 (r := (82, .lload_n 2, 1)) rfl
theorem dX16_several_83 : decode cX16_several 83 = .ok (.l2i, 1) := dk_get daX16_several 49 (r := (83, .l2i, 1)) rfl
theorem dX16_several_84 : decode cX16_several 84 = .ok (.iconst 1, 1) := dk_get daX16_several 50 (r := (84, .iconst 1, 1)) rfl
theorem dX16_several_85 : decode cX16_several 85 = .ok (.iadd, 1) := dk_get daX16_several 51 (r := (85, .iadd, 1)) rfl
theorem dX16_several_86 : decode cX16_several 86 = .ok (.iconst 4, 1) := dk_get daX16_several 52 (r := (86, .iconst 4, 1)) rfl
theorem dX16_several_87 : decode cX16_several 87 = .ok (.invokevirtual 617, 3) := dk_get daX16_several 53 (r := (87, .invokevirtual 617, 3)) rfl
theorem dX16_several_90 : decode cX16_several 90 = .ok (.lstore 4, 2) := dk_get daX16_several 54 (r := (90, .lstore 4, 2)) rfl
theorem dX16_several_92 : decode cX16_several 92 = .ok (.aload_n 0, 1) := dk_get daX16_several 55 (r := (92, .aload_n 0, 1)) rfl
theorem dX16_several_93 : decode cX16_several 93 = .ok (.getfield 524, 3) := dk_get daX16_several 56 (r := (93, .getfield 524, 3)) rfl
theorem dX16_several_96 : decode cX16_several 96 = .ok (.ifCond .ne 31, 3) := dk_get daX16_several 57 (r := (96, .ifCond .ne 31, 3)) rfl
theorem dX16_several_99 : decode cX16_several 99 = .ok (.lload 4, 2) := dk_get daX16_several 58 (r := (99, .lload 4, 2)) rfl
theorem dX16_several_101 : decode cX16_several 101 = .ok (.lconst 0, 1) := dk_get daX16_several 59 (r := (101, .lconst 0, 1)) rfl
theorem dX16_several_102 : decode cX16_several 102 = .ok (.lcmp, 1) := dk_get daX16_several 60 (r := (102, .lcmp, 1)) rfl
theorem dX16_several_103 : decode cX16_several 103 = .ok (.ifCond .lt 24, 3) := dk_get daX16_several 61 (r := (103, .ifCond .lt 24, 3)) rfl
theorem dX16_several_106 : decode cX16_several 106 = .ok (.lload 4, 2) := dk_get daX16_several 62 (r := (106, .lload 4, 2)) rfl
theorem dX16_several_108 : decode cX16_several 108 = .ok (.lload_n 2, 1) := dk_get daX16_several 63 (r := (108, .lload_n 2, 1)) rfl
theorem dX16_several_109 : decode cX16_several 109 = .ok (.lcmp, 1) := dk_get daX16_several 64 (r := (109, .lcmp, 1)) rfl
theorem dX16_several_110 : decode cX16_several 110 = .ok (.ifCond .gt 17, 3) := dk_get daX16_several 65 (r := (110, .ifCond .gt 17, 3)) rfl
theorem dX16_several_113 : decode cX16_several 113 = .ok (.aload_n 0, 1) := dk_get daX16_several 66 (r := (113, .aload_n 0, 1)) rfl
theorem dX16_several_114 : decode cX16_several 114 = .ok (.lload_n 2, 1) := dk_get daX16_several 67 (r := (114, .lload_n 2, 1)) rfl
theorem dX16_several_115 : decode cX16_several 115 = .ok (.lload 4, 2) := dk_get daX16_several 68 (r := (115, .lload 4, 2)) rfl
theorem dX16_several_117 : decode cX16_several 117 = .ok (.ladd, 1) := dk_get daX16_several 69 (r := (117, .ladd, 1)) rfl
theorem dX16_several_118 : decode cX16_several 118 = .ok (.l2i, 1) := dk_get daX16_several 70 (r := (118, .l2i, 1)) rfl
theorem dX16_several_119 : decode cX16_several 119 = .ok (.iconst 3, 1) := dk_get daX16_several 71 (r := (119, .iconst 3, 1)) rfl
theorem dX16_several_120 : decode cX16_several 120 = .ok (.iadd, 1) := dk_get daX16_several 72 (r := (120, .iadd, 1)) rfl
theorem dX16_several_121 : decode cX16_several 121 = .ok (.invokevirtual 582, 3) := dk_get daX16_several 73 (r := (121, .invokevirtual 582, 3)) rfl
theorem dX16_several_124 : decode cX16_several 124 = .ok (.ifCond .ne 9, 3) := dk_get daX16_several 74 (r := (124, .ifCond .ne 9, 3)) rfl
theorem dX16_several_127 : decode cX16_several 127 = .ok (.aload_n 0, 1) := dk_get daX16_several 75 (r := (127, .aload_n 0, 1)) rfl
theorem dX16_several_128 : decode cX16_several 128 = .ok (.iconst 1, 1) := dk_get daX16_several 76 (r := (128, .iconst 1, 1)) rfl
theorem dX16_several_129 : decode cX16_several 129 = .ok (.putfield 524, 3) := dk_get daX16_several 77 (r := (129, .putfield 524, 3)) rfl
theorem dX16_several_132 : decode cX16_several 132 = .ok (.return_, 1) := dk_get daX16_several 78 (r := (132, .return_, 1)) rfl
theorem dX16_several_133 : decode cX16_several 133 = .ok (.aload_n 0, 1) := dk_get daX16_several 79 (r := (133, .aload_n 0, 1)) rfl
theorem dX16_several_134 : decode cX16_several 134 = .ok (.getfield 521, 3) := dk_get daX16_several 80 (r := (134, .getfield 521, 3)) rfl
theorem dX16_several_137 : decode cX16_several 137 = .ok (.iconst 2, 1) := dk_get daX16_several 81 (r := (137, .iconst 2, 1)) rfl
theorem dX16_several_138 : decode cX16_several 138 = .ok (.isub, 1) := dk_get daX16_several 82 (r := (138, .isub, 1)) rfl
theorem dX16_several_139 : decode cX16_several 139 = .ok (.istore 6, 2) := dk_get daX16_several 83 (r := (139, .istore 6, 2)) rfl
theorem dX16_several_141 : decode cX16_several 141 = .ok (.aload_n 0, 1) := dk_get daX16_several 84 (r := (141, .aload_n 0, 1)) rfl
theorem dX16_several_142 : decode cX16_several 142 = .ok (.getfield 521, 3) := dk_get daX16_several 85 (r := (142, .getfield 521, 3)) rfl
theorem dX16_several_145 : decode cX16_several 145 = .ok (.iconst 3, 1) := dk_get daX16_several 86 (r := (145, .iconst 3, 1)) rfl
theorem dX16_several_146 : decode cX16_several 146 = .ok (.isub, 1) := dk_get daX16_several 87 (r := (146, .isub, 1)) rfl
theorem dX16_several_147 : decode cX16_several 147 = .ok (.lload_n 2, 1) := dk_get daX16_several 88 (r := (147, .lload_n 2, 1)) rfl
theorem dX16_several_148 : decode cX16_several 148 = .ok (.l2i, 1) := dk_get daX16_several 89 (r := (148, .l2i, 1)) rfl
theorem dX16_several_149 : decode cX16_several 149 = .ok (.isub, 1) := dk_get daX16_several 90 (r := (149, .isub, 1)) rfl
theorem dX16_several_150 : decode cX16_several 150 = .ok (.istore 7, 2) := dk_get daX16_several 91 (r := (150, .istore 7, 2)) rfl
theorem dX16_several_152 : decode cX16_several 152 = .ok (.lload 4, 2) := dk_get daX16_several 92 (r := (152, .lload 4, 2)) rfl
theorem dX16_several_154 : decode cX16_several 154 = .ok (.l2i, 1) := dk_get daX16_several 93 (r := (154, .l2i, 1)) rfl
theorem dX16_several_155 : decode cX16_several 155 = .ok (.istore 8, 2) := dk_get daX16_several 94 (r := (155, .istore 8, 2)) rfl
theorem dX16_several_157 : decode cX16_several 157 = .ok (.lload_n 2, 1) := dk_get daX16_several 95 (r := (157, .lload_n 2, 1)) rfl
theorem dX16_several_158 : decode cX16_several 158 = .ok (.l2i, 1) := dk_get daX16_several 96 (r := (158, .l2i, 1)) rfl
theorem dX16_several_159 : decode cX16_several 159 = .ok (.istore 9, 2) := dk_get daX16_several 97 (r := (159, .istore 9, 2)) rfl
theorem dX16_several_161 : decode cX16_several 161 = .ok (.iconst 1, 1) := dk_get daX16_several 98 (r := (161, .iconst 1, 1)) rfl
theorem dX16_several_162 : decode cX16_several 162 = .ok (.istore 10, 2) := dk_get daX16_several 99 (r := (162, .istore 10, 2)) rfl
theorem dX16_several_164 : decode cX16_several 164 = .ok (.iload 10, 2) := dk_get daX16_several 100 (r := (164, .iload 10, 2)) rfl
theorem dX16_several_166 : decode cX16_several 166 = .ok (.ifCond .eq 158, 3) := dk_get daX16_several 101 (r := (166, .ifCond .eq 158, 3)) rfl
theorem dX16_several_169 : decode cX16_several 169 = .ok (.iload 8, 2) := dk_get daX16_several 102 (r := (169, .iload 8, 2)) rfl
theorem dX16_several_171 : decode cX16_several 171 = .ok (.ifCond .le 153, 3) := dk_get daX16_several 103 (r := (171, .ifCond .le 153, 3)) rfl
theorem dX16_several_174 : decode cX16_several 174 = .ok (.iload 7, 2) := dk_get daX16_several 104 (r := (174, .iload 7, 2)) rfl
theorem dX16_several_176 : decode cX16_several 176 = .ok (.lload 4, 2) := dk_get daX16_several 105 (r := (176, .lload 4, 2)) rfl
theorem dX16_several_178 : decode cX16_several 178 = .ok (.l2i, 1) := dk_get daX16_several 106 (r := (178, .l2i, 1)) rfl
theorem dX16_several_179 : decode cX16_several 179 = .ok (.iload 8, 2) := dk_get daX16_several 107 (r := (179, .iload 8, 2)) rfl
theorem dX16_several_181 : decode cX16_several 181 = .ok (.isub, 1) := dk_get daX16_several 108 (r := (181, .isub, 1)) rfl
theorem dX16_several_182 : decode cX16_several 182 = .ok (.isub, 1) := dk_get daX16_several 109 (r := (182, .isub, 1)) rfl
theorem dX16_several_183 : decode cX16_several 183 = .ok (.istore 11, 2) := dk_get daX16_several 110 (r := (183, .istore 11, 2)) rfl
theorem dX16_several_185 : decode cX16_several 185 = .ok (.iload 6, 2) := dk_get daX16_several 111 (r := (185, .iload 6, 2)) rfl
theorem dX16_several_187 : decode cX16_several 187 = .ok (.lload_n 2, 1) := dk_get daX16_several 112 (r := (187, .lload_n 2, 1)) rfl
theorem dX16_several_188 : decode cX16_several 188 = .ok (.l2i, 1) := dk_get daX16_several 113 (r := (188, .l2i, 1)) rfl
theorem dX16_several_189 : decode cX16_several 189 = .ok (.iload 9, 2) := dk_get daX16_several 114 (r := (189, .iload 9, 2)) rfl
theorem dX16_several_191 : decode cX16_several 191 = .ok (.isub, 1) := dk_get daX16_several 115 (r := (191, .isub, 1)) rfl
theorem dX16_several_192 : decode cX16_several 192 = .ok (.isub, 1) := dk_get daX16_several 116 (r := (192, .isub, 1)) rfl
theorem dX16_several_193 : decode cX16_several 193 = .ok (.istore 12, 2) := dk_get daX16_several 117 (r := (193, .istore 12, 2)) rfl
theorem dX16_several_195 : decode cX16_several 195 = .ok (.aload_n 0, 1) := dk_get daX16_several 118 (r := (195, .aload_n 0, 1)) rfl
theorem dX16_several_196 : decode cX16_several 196 = .ok (.aload_n 0, 1) := dk_get daX16_several 119 (r := (196, .aload_n 0, 1)) rfl
theorem dX16_several_197 : decode cX16_several 197 = .ok (.getfield 548, 3) := dk_get daX16_several 120 (r := (197, .getfield 548, 3)) rfl
theorem dX16_several_200 : decode cX16_several 200 = .ok (.aload_n 0, 1) := dk_get daX16_several 121 (r := (200, .aload_n 0, 1)) rfl
theorem dX16_several_201 : decode cX16_several 201 = .ok (.getfield 551, 3) := dk_get daX16_several 122 (r := (201, .getfield 551, 3)) rfl
theorem dX16_several_204 : decode cX16_several 204 = .ok (.aload_n 0, 1) := dk_get daX16_several 123 (r := (204, .aload_n 0, 1)) rfl
theorem dX16_several_205 : decode cX16_several 205 = .ok (.getfield 554, 3) := dk_get daX16_several 124 (r := (205, .getfield 554, 3)) rfl
theorem dX16_several_208 : decode cX16_several 208 = .ok (.aload_n 0, 1) := dk_get daX16_several 125 (r := (208, .aload_n 0, 1)) rfl
theorem dX16_several_209 : decode cX16_several 209 = .ok (.getfield 551, 3) := dk_get daX16_several 126 (r := (209, .getfield 551, 3)) rfl
theorem dX16_several_212 : decode cX16_several 212 = .ok (.isub, 1) := dk_get daX16_several 127 (r := (212, .isub, 1)) rfl
theorem dX16_several_213 : decode cX16_several 213 = .ok (.invokevirtual 690, 3) := dk_get daX16_several 128 (r := (213, .invokevirtual 690, 3)) rfl
theorem dX16_several_216 : decode cX16_several 216 = .ok (.iconst 0, 1) := dk_get daX16_several 129 (r := (216, .iconst 0, 1)) rfl
theorem dX16_several_217 : decode cX16_several 217 = .ok (.istore 13, 2) := dk_get daX16_several 130 (r := (217, .istore 13, 2)) rfl
theorem dX16_several_219 : decode cX16_several 219 = .ok (.iload 13, 2) := dk_get daX16_several 131 (r := (219, .iload 13, 2)) rfl
theorem dX16_several_221 : decode cX16_several 221 = .ok (.i2l, 1) := dk_get daX16_several 132 (r := (221, .i2l, 1)) rfl
theorem dX16_several_222 : decode cX16_several 222 = .ok (.lload 4, 2) := dk_get daX16_several 133 (r := (222, .lload 4, 2)) rfl
theorem dX16_several_224 : decode cX16_several 224 = .ok (.lcmp, 1) := dk_get daX16_several 134 (r := (224, .lcmp, 1)) rfl
theorem dX16_several_225 : decode cX16_several 225 = .ok (.ifCond .ge 33, 3) := dk_get daX16_several 135 (r := (225, .ifCond .ge 33, 3)) rfl
theorem dX16_several_228 : decode cX16_several 228 = .ok (.aload_n 0, 1) := dk_get daX16_several 136 (r := (228, .aload_n 0, 1)) rfl
theorem dX16_several_229 : decode cX16_several 229 = .ok (.aload_n 0, 1) := dk_get daX16_several 137 (r := (229, .aload_n 0, 1)) rfl
theorem dX16_several_230 : decode cX16_several 230 = .ok (.getfield 527, 3) := dk_get daX16_several 138 (r := (230, .getfield 527, 3)) rfl
theorem dX16_several_233 : decode cX16_several 233 = .ok (.iload 7, 2) := dk_get daX16_several 139 (r := (233, .iload 7, 2)) rfl
theorem dX16_several_235 : decode cX16_several 235 = .ok (.iload 13, 2) := dk_get daX16_several 140 (r := (235, .iload 13, 2)) rfl
theorem dX16_several_237 : decode cX16_several 237 = .ok (.isub, 1) := dk_get daX16_several 141 (r := (237, .isub, 1)) rfl
theorem dX16_several_238 : decode cX16_several 238 = .ok (.aaload, 1) := dk_get daX16_several 142 (r := (238, .aaload, 1)) rfl
theorem dX16_several_239 : decode cX16_several 239 = .ok (.aload_n 0, 1) := dk_get daX16_several 143 (r := (239, .aload_n 0, 1)) rfl
theorem dX16_several_240 : decode cX16_several 240 = .ok (.getfield 535, 3) := dk_get daX16_several 144 (r := (240, .getfield 535, 3)) rfl
theorem dX16_several_243 : decode cX16_several 243 = .ok (.iload 7, 2) := dk_get daX16_several 145 (r := (243, .iload 7, 2)) rfl
theorem dX16_several_245 : decode cX16_several 245 = .ok (.iload 13, 2) := dk_get daX16_several 146 (r := (245, .iload 13, 2)) rfl
theorem dX16_several_247 : decode cX16_several 247 = .ok (.isub, 1) := dk_get daX16_several 147 (r := (247, .isub, 1)) rfl
theorem dX16_several_248 : decode cX16_several 248 = .ok (.iaload, 1) := dk_get daX16_several 148 (r := (248, .iaload, 1)) rfl
theorem dX16_several_249 : decode cX16_several 249 = .ok (.invokevirtual 693, 3) := dk_get daX16_several 149 (r := (249, .invokevirtual 693, 3)) rfl
theorem dX16_several_252 : decode cX16_several 252 = .ok (.iinc 13 1, 3) := dk_get daX16_several 150 (r := (252, .iinc 13 1, 3)) rfl
theorem dX16_several_255 : decode cX16_several 255 = .ok (.goto (-36), 3) := dk_get daX16_several 151 (r := (255, .goto (-36), 3)) rfl
theorem dX16_several_258 : decode cX16_several 258 = .ok (.aload_n 0, 1) := dk_get daX16_several 152 (r := (258, .aload_n 0, 1)) rfl
theorem dX16_several_259 : decode cX16_several 259 = .ok (.aload_n 0, 1) := dk_get daX16_several 153 (r := (259, .aload_n 0, 1)) rfl
theorem dX16_several_260 : decode cX16_several 260 = .ok (.getfield 527, 3) := dk_get daX16_several 154 (r := (260, .getfield 527, 3)) rfl
theorem dX16_several_263 : decode cX16_several 263 = .ok (.iload 11, 2) := dk_get daX16_several 155 (r := (263, .iload 11, 2)) rfl
theorem dX16_several_265 : decode cX16_several 265 = .ok (.aaload, 1) := dk_get daX16_several 156 (r := (265, .aaload, 1)) rfl
theorem dX16_several_266 : decode cX16_several 266 = .ok (.aload_n 0, 1) := dk_get daX16_several 157 (r := (266, .aload_n 0, 1)) rfl
theorem dX16_several_267 : decode cX16_several 267 = .ok (.getfield 535, 3) := dk_get daX16_several 158 (r := (267, .getfield 535, 3)) rfl
theorem dX16_several_270 : decode cX16_several 270 = .ok (.iload 11, 2) := dk_get daX16_several 159 (r := (270, .iload 11, 2)) rfl
theorem dX16_several_272 : decode cX16_several 272 = .ok (.iaload, 1) := dk_get daX16_several 160 (r := (272, .iaload, 1)) rfl
theorem dX16_several_273 : decode cX16_several 273 = .ok (.aload_n 0, 1) := dk_get daX16_several 161 (r := (273, .aload_n 0, 1)) rfl
theorem dX16_several_274 : decode cX16_several 274 = .ok (.getfield 527, 3) := dk_get daX16_several 162 (r := (274, .getfield 527, 3)) rfl
theorem dX16_several_277 : decode cX16_several 277 = .ok (.iload 12, 2) := dk_get daX16_several 163 (r := (277, .iload 12, 2)) rfl
theorem dX16_several_279 : decode cX16_several 279 = .ok (.aaload, 1) := dk_get daX16_several 164 (r := (279, .aaload, 1)) rfl
theorem dX16_several_280 : decode cX16_several 280 = .ok (.aload_n 0, 1) := dk_get daX16_several 165 (r := (280, .aload_n 0, 1)) rfl
theorem dX16_several_281 : decode cX16_several 281 = .ok (.getfield 535, 3) := dk_get daX16_several 166 (r := (281, .getfield 535, 3)) rfl
theorem dX16_several_284 : decode cX16_several 284 = .ok (.iload 12, 2) := dk_get daX16_several 167 (r := (284, .iload 12, 2)) rfl
theorem dX16_several_286 : decode cX16_several 286 = .ok (.iaload, 1) := dk_get daX16_several 168 (r := (286, .iaload, 1)) rfl
theorem dX16_several_287 : decode cX16_several 287 = .ok (.invokevirtual 696, 3) := dk_get daX16_several 169 (r := (287, .invokevirtual 696, 3)) rfl
theorem dX16_several_290 : decode cX16_several 290 = .ok (.ifCond .eq 6, 3) := dk_get daX16_several 170 (r := (290, .ifCond .eq 6, 3)) rfl
theorem dX16_several_293 : decode cX16_several 293 = .ok (.iinc 8 (-1), 3) := dk_get daX16_several 171 (r := (293, .iinc 8 (-1), 3)) rfl
theorem dX16_several_296 : decode cX16_several 296 = .ok (.aload_n 0, 1) := dk_get daX16_several 172 (r := (296, .aload_n 0, 1)) rfl
theorem dX16_several_297 : decode cX16_several 297 = .ok (.getfield 524, 3) := dk_get daX16_several 173 (r := (297, .getfield 524, 3)) rfl
theorem dX16_several_300 : decode cX16_several 300 = .ok (.ifCond .eq 4, 3) := dk_get daX16_several 174 (r := (300, .ifCond .eq 4, 3)) rfl
theorem dX16_several_303 : decode cX16_several 303 = .ok (.return_, 1) := dk_get daX16_several 175 (r := (303, .return_, 1)) rfl
theorem dX16_several_304 : decode cX16_several 304 = .ok (.iinc 9 (-1), 3) := dk_get daX16_several 176 (r := (304, .iinc 9 (-1), 3)) rfl
theorem dX16_several_307 : decode cX16_several 307 = .ok (.iload 8, 2) := dk_get daX16_several 177 (r := (307, .iload 8, 2)) rfl
theorem dX16_several_309 : decode cX16_several 309 = .ok (.iload 9, 2) := dk_get daX16_several 178 (r := (309, .iload 9, 2)) rfl
theorem dX16_several_311 : decode cX16_several 311 = .ok (.if_icmp .gt 7, 3) := dk_get daX16_several 179 (r := (311, .if_icmp .gt 7, 3)) rfl
theorem dX16_several_314 : decode cX16_several 314 = .ok (.iconst 1, 1) := dk_get daX16_several 180 (r := (314, .iconst 1, 1)) rfl
theorem dX16_several_315 : decode cX16_several 315 = .ok (.goto 4, 3) := dk_get daX16_several 181 (r := (315, .goto 4, 3)) rfl
theorem dX16_several_318 : decode cX16_several 318 = .ok (.iconst 0, 1) := dk_get daX16_several 182 (r := (318, .iconst 0, 1)) rfl
theorem dX16_several_319 : decode cX16_several 319 = .ok (.istore 10, 2) := dk_get daX16_several 183 (r := (319, .istore 10, 2)) rfl
theorem dX16_several_321 : decode cX16_several 321 = .ok (.goto (-157), 3) := dk_get daX16_several 184 (r := (321, .goto (-157), 3)) rfl
theorem dX16_several_324 : decode cX16_several 324 = .ok (.aload_n 0, 1) := dk_get daX16_several 185 (r := (324, .aload_n 0, 1)) rfl
theorem dX16_several_325 : decode cX16_several 325 = .ok (.dup, 1) := dk_get daX16_several 186 (r := (325, .dup, 1)) rfl
theorem dX16_several_326 : decode cX16_several 326 = .ok (.getfield 521, 3) := dk_get daX16_several 187 (r := (326, .getfield 521, 3)) rfl
theorem dX16_several_329 : decode cX16_several 329 = .ok (.lload_n 2, 1) := dk_get daX16_several 188 (r := (329, .lload_n 2, 1)) rfl
theorem dX16_several_330 : decode cX16_several 330 = .ok (.lload 4, 2) := dk_get daX16_several 189 (r := (330, .lload 4, 2)) rfl
theorem dX16_several_332 : decode cX16_several 332 = .ok (.ladd, 1) := dk_get daX16_several 190 (r := (332, .ladd, 1)) rfl
theorem dX16_several_333 : decode cX16_several 333 = .ok (.l2i, 1) := dk_get daX16_several 191 (r := (333, .l2i, 1)) rfl
theorem dX16_several_334 : decode cX16_several 334 = .ok (.iconst 3, 1) := dk_get daX16_several 192 (r := (334, .iconst 3, 1)) rfl
theorem dX16_several_335 : decode cX16_several 335 = .ok (.iadd, 1) := dk_get daX16_several 193 (r := (335, .iadd, 1)) rfl
theorem dX16_several_336 : decode cX16_several 336 = .ok (.isub, 1) := dk_get daX16_several 194 (r := (336, .isub, 1)) rfl
theorem dX16_several_337 : decode cX16_several 337 = .ok (.putfield 521, 3) := dk_get daX16_several 195 (r := (337, .putfield 521, 3)) rfl
theorem dX16_several_340 : decode cX16_several 340 = .ok (.aload_n 0, 1) := dk_get daX16_several 196 (r := (340, .aload_n 0, 1)) rfl
theorem dX16_several_341 : decode cX16_several 341 = .ok (.iload 10, 2) := dk_get daX16_several 197 (r := (341, .iload 10, 2)) rfl
theorem dX16_several_343 : decode cX16_several 343 = .ok (.iload_n 1, 1) := dk_get daX16_several 198 (r := (343, .iload_n 1, 1)) rfl
theorem dX16_several_344 : decode cX16_several 344 = .ok (.sipush 175, 3) := dk_get daX16_several 199 (r := (344, .sipush 175, 3)) rfl
theorem dX16_several_347 : decode cX16_several 347 = .ok (.if_icmp .ne 7, 3) := dk_get daX16_several 200 (r := (347, .if_icmp .ne 7, 3)) rfl
theorem dX16_several_350 : decode cX16_several 350 = .ok (.iconst 1, 1) := dk_get daX16_several 201 (r := (350, .iconst 1, 1)) rfl
theorem dX16_several_351 : decode cX16_several 351 = .ok (.goto 4, 3) := dk_get daX16_several 202 (r := (351, .goto 4, 3)) rfl
theorem dX16_several_354 : decode cX16_several 354 = .ok (.iconst 0, 1) := dk_get daX16_several 203 (r := (354, .iconst 0, 1)) rfl
theorem dX16_several_355 : decode cX16_several 355 = .ok (.invokevirtual 595, 3) := dk_get daX16_several 204 (r := (355, .invokevirtual 595, 3)) rfl
theorem dX16_several_358 : decode cX16_several 358 = .ok (.return_, 1) := dk_get daX16_several 205 (r := (358, .return_, 1)) rfl
abbrev mX16_locked : ks_M := (RX16, cX16_locked, 6, none, "locked")
def drX16_locked : List (Nat × Instr × Nat) := [(0, .aload_n 0, 1), (1, .iconst 0, 1), (2, .iconst 5, 1), (3, .invokevirtual 617, 3), (6, .lstore_n 1, 1), (7, .aload_n 0, 1), (8, .aload_n 0, 1), (9, .getfield 673, 3), (12, .getfield 275, 3), (15, .aload_n 0, 1), (16, .getfield 673, 3), (19, .getfield 313, 3), (22, .aload_n 0, 1), (23, .getfield 676, 3), (26, .iaload, 1), (27, .iconst 4, 1), (28, .isub, 1), (29, .iconst 4, 1), (30, .invokevirtual 267, 3), (33, .lstore_n 3, 1), (34, .aload_n 0, 1), (35, .aload_n 0, 1), (36, .getfield 673, 3), (39, .getfield 275, 3), (42, .aload_n 0, 1), (43, .aload_n 0, 1), (44, .getfield 673, 3), (47, .aload_n 0, 1), (48, .getfield 676, 3), (51, .aload_n 0, 1), (52, .getfield 679, 3), (55, .invokevirtual 419, 3), (58, .bipush 36, 2), (60, .iadd, 1), (61, .invokevirtual 328, 3), (64, .istore 5, 2), (66, .aload_n 0, 1), (67, .dup, 1), (68, .getfield 524, 3), (71, .lload_n 1, 1), (72, .lconst 0, 1), (73, .lcmp, 1), (74, .ifCond .lt 59, 3), (77, .lload_n 1, 1), (78, .ldc2_w 430, 3), (81, .lcmp, 1), (82, .ifCond .ge 7, 3), (85, .iconst 1, 1), (86, .goto 4, 3), (89, .iconst 0, 1), (90, .lload_n 3, 1), (91, .ldc2_w 430, 3), (94, .lcmp, 1), (95, .ifCond .ge 7, 3), (98, .iconst 1, 1), (99, .goto 4, 3), (102, .iconst 0, 1), (103, .if_icmp .ne 30, 3), (106, .lload_n 1, 1), (107, .lload_n 3, 1), (108, .lcmp, 1), (109, .ifCond .gt 24, 3), (112, .aload_n 0, 1), (113, .aload_n 0, 1), (114, .getfield 673, 3), (117, .getfield 275, 3), (120, .iload 5, 2), (122, .iconst 4, 1), (123, .invokevirtual 267, 3), (126, .ldc2_w 380, 3), (129, .lcmp, 1), (130, .ifCond .ne 7, 3), (133, .iconst 1, 1), (134, .goto 4, 3), (137, .iconst 0, 1), (138, .ior, 1), (139, .putfield 524, 3), (142, .return_, 1)]
set_option maxRecDepth 100000 in
theorem daX16_locked : dk_all cX16_locked drX16_locked = true := by decide +kernel
theorem dX16_locked_0 : decode cX16_locked 0 = .ok (.aload_n 0, 1) := dk_get daX16_locked 0 (r := (0, .aload_n 0, 1)) rfl
theorem dX16_locked_1 : decode cX16_locked 1 = .ok (.iconst 0, 1) := dk_get daX16_locked 1 (r := (1, .iconst 0, 1)) rfl
theorem dX16_locked_2 : decode cX16_locked 2 = .ok (.iconst 5, 1) := dk_get daX16_locked 2 (r := (2, .iconst 5, 1)) rfl
theorem dX16_locked_3 : decode cX16_locked 3 = .ok (.invokevirtual 617, 3) := dk_get daX16_locked 3 (r := (3, .invokevirtual 617, 3)) rfl
theorem dX16_locked_6 : decode cX16_locked 6 = .ok (.lstore_n 1, 1) := dk_get daX16_locked 4 (r := (6, .lstore_n 1, 1)) rfl
theorem dX16_locked_7 : decode cX16_locked 7 = .ok (.aload_n 0, 1) := dk_get daX16_locked 5 (r := (7, .aload_n 0, 1)) rfl
theorem dX16_locked_8 : decode cX16_locked 8 = .ok (.aload_n 0, 1) := dk_get daX16_locked 6 (r := (8, .aload_n 0, 1)) rfl
theorem dX16_locked_9 : decode cX16_locked 9 = .ok (.getfield 673, 3) := dk_get daX16_locked 7 (r := (9, .getfield 673, 3)) rfl
theorem dX16_locked_12 : decode cX16_locked 12 = .ok (.getfield 275, 3) := dk_get daX16_locked 8 (r := (12, .getfield 275, 3)) rfl
theorem dX16_locked_15 : decode cX16_locked 15 = .ok (.aload_n 0, 1) := dk_get daX16_locked 9 (r := (15, .aload_n 0, 1)) rfl
theorem dX16_locked_16 : decode cX16_locked 16 = .ok (.getfield 673, 3) := dk_get daX16_locked 10 (r := (16, .getfield 673, 3)) rfl
theorem dX16_locked_19 : decode cX16_locked 19 = .ok (.getfield 313, 3) := dk_get daX16_locked 11 (r := (19, .getfield 313, 3)) rfl
theorem dX16_locked_22 : decode cX16_locked 22 = .ok (.aload_n 0, 1) := dk_get daX16_locked 12 (r := (22, .aload_n 0, 1)) rfl
theorem dX16_locked_23 : decode cX16_locked 23 = .ok (.getfield 676, 3) := dk_get daX16_locked 13 (r := (23, .getfield 676, 3)) rfl
theorem dX16_locked_26 : decode cX16_locked 26 = .ok (.iaload, 1) := dk_get daX16_locked 14 (r := (26, .iaload, 1)) rfl
theorem dX16_locked_27 : decode cX16_locked 27 = .ok (.iconst 4, 1) := dk_get daX16_locked 15 (r := (27, .iconst 4, 1)) rfl
theorem dX16_locked_28 : decode cX16_locked 28 = .ok (.isub, 1) := dk_get daX16_locked 16 (r := (28, .isub, 1)) rfl
theorem dX16_locked_29 : decode cX16_locked 29 = .ok (.iconst 4, 1) := dk_get daX16_locked 17 (r := (29, .iconst 4, 1)) rfl
theorem dX16_locked_30 : decode cX16_locked 30 = .ok (.invokevirtual 267, 3) := dk_get daX16_locked 18 (r := (30, .invokevirtual 267, 3)) rfl
theorem dX16_locked_33 : decode cX16_locked 33 = .ok (.lstore_n 3, 1) := dk_get daX16_locked 19 (r := (33, .lstore_n 3, 1)) rfl
theorem dX16_locked_34 : decode cX16_locked 34 = .ok (.aload_n 0, 1) := dk_get daX16_locked 20 (r := (34, .aload_n 0, 1)) rfl
theorem dX16_locked_35 : decode cX16_locked 35 = .ok (.aload_n 0, 1) := dk_get daX16_locked 21 (r := (35, .aload_n 0, 1)) rfl
theorem dX16_locked_36 : decode cX16_locked 36 = .ok (.getfield 673, 3) := dk_get daX16_locked 22 (r := (36, .getfield 673, 3)) rfl
theorem dX16_locked_39 : decode cX16_locked 39 = .ok (.getfield 275, 3) := dk_get daX16_locked 23 (r := (39, .getfield 275, 3)) rfl
theorem dX16_locked_42 : decode cX16_locked 42 = .ok (.aload_n 0, 1) := dk_get daX16_locked 24 (r := (42, .aload_n 0, 1)) rfl
theorem dX16_locked_43 : decode cX16_locked 43 = .ok (.aload_n 0, 1) := dk_get daX16_locked 25 (r := (43, .aload_n 0, 1)) rfl
theorem dX16_locked_44 : decode cX16_locked 44 = .ok (.getfield 673, 3) := dk_get daX16_locked 26 (r := (44, .getfield 673, 3)) rfl
theorem dX16_locked_47 : decode cX16_locked 47 = .ok (.aload_n 0, 1) := dk_get daX16_locked 27 (r := (47, .aload_n 0, 1)) rfl
theorem dX16_locked_48 : decode cX16_locked 48 = .ok (.getfield 676, 3) := dk_get daX16_locked 28 (r := (48, .getfield 676, 3)) rfl
theorem dX16_locked_51 : decode cX16_locked 51 = .ok (.aload_n 0, 1) := dk_get daX16_locked 29 (r := (51, .aload_n 0, 1)) rfl
theorem dX16_locked_52 : decode cX16_locked 52 = .ok (.getfield 679, 3) := dk_get daX16_locked 30 (r := (52, .getfield 679, 3)) rfl
theorem dX16_locked_55 : decode cX16_locked 55 = .ok (.invokevirtual 419, 3) := dk_get daX16_locked 31 (r := (55, .invokevirtual 419, 3)) rfl
theorem dX16_locked_58 : decode cX16_locked 58 = .ok (.bipush 36, 2) := dk_get daX16_locked 32 (r := (58, .bipush 36, 2)) rfl
theorem dX16_locked_60 : decode cX16_locked 60 = .ok (.iadd, 1) := dk_get daX16_locked 33 (r := (60, .iadd, 1)) rfl
theorem dX16_locked_61 : decode cX16_locked 61 = .ok (.invokevirtual 328, 3) := dk_get daX16_locked 34 (r := (61, .invokevirtual 328, 3)) rfl
theorem dX16_locked_64 : decode cX16_locked 64 = .ok (.istore 5, 2) := dk_get daX16_locked 35 (r := (64, .istore 5, 2)) rfl
theorem dX16_locked_66 : decode cX16_locked 66 = .ok (.aload_n 0, 1) := dk_get daX16_locked 36 (r := (66, .aload_n 0, 1)) rfl
theorem dX16_locked_67 : decode cX16_locked 67 = .ok (.dup, 1) := dk_get daX16_locked 37 (r := (67, .dup, 1)) rfl
theorem dX16_locked_68 : decode cX16_locked 68 = .ok (.getfield 524, 3) := dk_get daX16_locked 38 (r := (68, .getfield 524, 3)) rfl
theorem dX16_locked_71 : decode cX16_locked 71 = .ok (.lload_n 1, 1) := dk_get daX16_locked 39 (r := (71, .lload_n 1, 1)) rfl
theorem dX16_locked_72 : decode cX16_locked 72 = .ok (.lconst 0, 1) := dk_get daX16_locked 40 (r := (72, .lconst 0, 1)) rfl
theorem dX16_locked_73 : decode cX16_locked 73 = .ok (.lcmp, 1) := dk_get daX16_locked 41 (r := (73, .lcmp, 1)) rfl
theorem dX16_locked_74 : decode cX16_locked 74 = .ok (.ifCond .lt 59, 3) := dk_get daX16_locked 42 (r := (74, .ifCond .lt 59, 3)) rfl
theorem dX16_locked_77 : decode cX16_locked 77 = .ok (.lload_n 1, 1) := dk_get daX16_locked 43 (r := (77, .lload_n 1, 1)) rfl
theorem dX16_locked_78 : decode cX16_locked 78 = .ok (.ldc2_w 430, 3) := dk_get daX16_locked 44 (r := (78, .ldc2_w 430, 3)) rfl
theorem dX16_locked_81 : decode cX16_locked 81 = .ok (.lcmp, 1) := dk_get daX16_locked 45 (r := (81, .lcmp, 1)) rfl
theorem dX16_locked_82 : decode cX16_locked 82 = .ok (.ifCond .ge 7, 3) := dk_get daX16_locked 46 (r := (82, .ifCond .ge 7, 3)) rfl
theorem dX16_locked_85 : decode cX16_locked 85 = .ok (.iconst 1, 1) := dk_get daX16_locked 47 (r := (85, .iconst 1, 1)) rfl
theorem dX16_locked_86 : decode cX16_locked 86 = .ok (.goto 4, 3) := dk_get daX16_locked 48 (r := (86, .goto 4, 3)) rfl
theorem dX16_locked_89 : decode cX16_locked 89 = .ok (.iconst 0, 1) := dk_get daX16_locked 49 (r := (89, .iconst 0, 1)) rfl
theorem dX16_locked_90 : decode cX16_locked 90 = .ok (.lload_n 3, 1) := dk_get daX16_locked 50 (r := (90, .lload_n 3, 1)) rfl
theorem dX16_locked_91 : decode cX16_locked 91 = .ok (.ldc2_w 430, 3) := dk_get daX16_locked 51 (r := (91, .ldc2_w 430, 3)) rfl
theorem dX16_locked_94 : decode cX16_locked 94 = .ok (.lcmp, 1) := dk_get daX16_locked 52 (r := (94, .lcmp, 1)) rfl
theorem dX16_locked_95 : decode cX16_locked 95 = .ok (.ifCond .ge 7, 3) := dk_get daX16_locked 53 (r := (95, .ifCond .ge 7, 3)) rfl
theorem dX16_locked_98 : decode cX16_locked 98 = .ok (.iconst 1, 1) := dk_get daX16_locked 54 (r := (98, .iconst 1, 1)) rfl
theorem dX16_locked_99 : decode cX16_locked 99 = .ok (.goto 4, 3) := dk_get daX16_locked 55 (r := (99, .goto 4, 3)) rfl
theorem dX16_locked_102 : decode cX16_locked 102 = .ok (.iconst 0, 1) := dk_get daX16_locked 56 (r := (102, .iconst 0, 1)) rfl
theorem dX16_locked_103 : decode cX16_locked 103 = .ok (.if_icmp .ne 30, 3) := dk_get daX16_locked 57 (r := (103, .if_icmp .ne 30, 3)) rfl
theorem dX16_locked_106 : decode cX16_locked 106 = .ok (.lload_n 1, 1) := dk_get daX16_locked 58 (r := (106, .lload_n 1, 1)) rfl
theorem dX16_locked_107 : decode cX16_locked 107 = .ok (.lload_n 3, 1) := dk_get daX16_locked 59 (r := (107, .lload_n 3, 1)) rfl
theorem dX16_locked_108 : decode cX16_locked 108 = .ok (.lcmp, 1) := dk_get daX16_locked 60 (r := (108, .lcmp, 1)) rfl
theorem dX16_locked_109 : decode cX16_locked 109 = .ok (.ifCond .gt 24, 3) := dk_get daX16_locked 61 (r := (109, .ifCond .gt 24, 3)) rfl
theorem dX16_locked_112 : decode cX16_locked 112 = .ok (.aload_n 0, 1) := dk_get daX16_locked 62 (r := (112, .aload_n 0, 1)) rfl
theorem dX16_locked_113 : decode cX16_locked 113 = .ok (.aload_n 0, 1) := dk_get daX16_locked 63 (r := (113, .aload_n 0, 1)) rfl
theorem dX16_locked_114 : decode cX16_locked 114 = .ok (.getfield 673, 3) := dk_get daX16_locked 64 (r := (114, .getfield 673, 3)) rfl
theorem dX16_locked_117 : decode cX16_locked 117 = .ok (.getfield 275, 3) := dk_get daX16_locked 65 (r := (117, .getfield 275, 3)) rfl
theorem dX16_locked_120 : decode cX16_locked 120 = .ok (.iload 5, 2) := dk_get daX16_locked 66 (r := (120, .iload 5, 2)) rfl
theorem dX16_locked_122 : decode cX16_locked 122 = .ok (.iconst 4, 1) := dk_get daX16_locked 67 (r := (122, .iconst 4, 1)) rfl
theorem dX16_locked_123 : decode cX16_locked 123 = .ok (.invokevirtual 267, 3) := dk_get daX16_locked 68 (r := (123, .invokevirtual 267, 3)) rfl
theorem dX16_locked_126 : decode cX16_locked 126 = .ok (.ldc2_w 380, 3) := dk_get daX16_locked 69 (r := (126, .ldc2_w 380, 3)) rfl
theorem dX16_locked_129 : decode cX16_locked 129 = .ok (.lcmp, 1) := dk_get daX16_locked 70 (r := (129, .lcmp, 1)) rfl
theorem dX16_locked_130 : decode cX16_locked 130 = .ok (.ifCond .ne 7, 3) := dk_get daX16_locked 71 (r := (130, .ifCond .ne 7, 3)) rfl
theorem dX16_locked_133 : decode cX16_locked 133 = .ok (.iconst 1, 1) := dk_get daX16_locked 72 (r := (133, .iconst 1, 1)) rfl
theorem dX16_locked_134 : decode cX16_locked 134 = .ok (.goto 4, 3) := dk_get daX16_locked 73 (r := (134, .goto 4, 3)) rfl
theorem dX16_locked_137 : decode cX16_locked 137 = .ok (.iconst 0, 1) := dk_get daX16_locked 74 (r := (137, .iconst 0, 1)) rfl
theorem dX16_locked_138 : decode cX16_locked 138 = .ok (.ior, 1) := dk_get daX16_locked 75 (r := (138, .ior, 1)) rfl
theorem dX16_locked_139 : decode cX16_locked 139 = .ok (.putfield 524, 3) := dk_get daX16_locked 76 (r := (139, .putfield 524, 3)) rfl
theorem dX16_locked_142 : decode cX16_locked 142 = .ok (.return_, 1) := dk_get daX16_locked 77 (r := (142, .return_, 1)) rfl
abbrev mX16_isPushes : ks_M := (RX16, cX16_isPushes, 5, (some .boolean), "isPushes")
def drX16_isPushes : List (Nat × Instr × Nat) := [(0, .iload_n 2, 1), (1, .istore 4, 2), (3, .iload 4, 2), (5, .iload_n 2, 1), (6, .iload_n 3, 1), (7, .iadd, 1), (8, .if_icmp .ge 37, 3), (11, .aload_n 1, 1), (12, .iload 4, 2), (14, .baload, 1), (15, .sipush 255, 3), (18, .iand, 1), (19, .bipush 96, 2), (21, .if_icmp .le 5, 3), (24, .iconst 0, 1), (25, .ireturn, 1), (26, .aload_n 0, 1), (27, .aload_n 1, 1), (28, .iload 4, 2), (30, .iload_n 2, 1), (31, .iload_n 3, 1), (32, .iadd, 1), (33, .invokevirtual 423, 3), (36, .istore 4, 2), (38, .iload 4, 2), (40, .ifCond .ge (-37), 3), (43, .iconst 0, 1), (44, .ireturn, 1), (45, .iconst 1, 1), (46, .ireturn, 1)]
set_option maxRecDepth 100000 in
theorem daX16_isPushes : dk_all cX16_isPushes drX16_isPushes = true := by decide +kernel
theorem dX16_isPushes_0 : decode cX16_isPushes 0 = .ok (.iload_n 2, 1) := dk_get daX16_isPushes 0 (r := (0, .iload_n 2, 1)) rfl
theorem dX16_isPushes_1 : decode cX16_isPushes 1 = .ok (.istore 4, 2) := dk_get daX16_isPushes 1 (r := (1, .istore 4, 2)) rfl
theorem dX16_isPushes_3 : decode cX16_isPushes 3 = .ok (.iload 4, 2) := dk_get daX16_isPushes 2 (r := (3, .iload 4, 2)) rfl
theorem dX16_isPushes_5 : decode cX16_isPushes 5 = .ok (.iload_n 2, 1) := dk_get daX16_isPushes 3 (r := (5, .iload_n 2, 1)) rfl
theorem dX16_isPushes_6 : decode cX16_isPushes 6 = .ok (.iload_n 3, 1) := dk_get daX16_isPushes 4 (r := (6, .iload_n 3, 1)) rfl
theorem dX16_isPushes_7 : decode cX16_isPushes 7 = .ok (.iadd, 1) := dk_get daX16_isPushes 5 (r := (7, .iadd, 1)) rfl
theorem dX16_isPushes_8 : decode cX16_isPushes 8 = .ok (.if_icmp .ge 37, 3) := dk_get daX16_isPushes 6 (r := (8, .if_icmp .ge 37, 3)) rfl
theorem dX16_isPushes_11 : decode cX16_isPushes 11 = .ok (.aload_n 1, 1) := dk_get daX16_isPushes 7 (r := (11, .aload_n 1, 1)) rfl
theorem dX16_isPushes_12 : decode cX16_isPushes 12 = .ok (.iload 4, 2) := dk_get daX16_isPushes 8 (r := (12, .iload 4, 2)) rfl
theorem dX16_isPushes_14 : decode cX16_isPushes 14 = .ok (.baload, 1) := dk_get daX16_isPushes 9 (r := (14, .baload, 1)) rfl
theorem dX16_isPushes_15 : decode cX16_isPushes 15 = .ok (.sipush 255, 3) := dk_get daX16_isPushes 10 (r := (15, .sipush 255, 3)) rfl
theorem dX16_isPushes_18 : decode cX16_isPushes 18 = .ok (.iand, 1) := dk_get daX16_isPushes 11 (r := (18, .iand, 1)) rfl
theorem dX16_isPushes_19 : decode cX16_isPushes 19 = .ok (.bipush 96, 2) := dk_get daX16_isPushes 12 (r := (19, .bipush 96, 2)) rfl
theorem dX16_isPushes_21 : decode cX16_isPushes 21 = .ok (.if_icmp .le 5, 3) := dk_get daX16_isPushes 13 (r := (21, .if_icmp .le 5, 3)) rfl
theorem dX16_isPushes_24 : decode cX16_isPushes 24 = .ok (.iconst 0, 1) := dk_get daX16_isPushes 14 (r := (24, .iconst 0, 1)) rfl
theorem dX16_isPushes_25 : decode cX16_isPushes 25 = .ok (.ireturn, 1) := dk_get daX16_isPushes 15 (r := (25, .ireturn, 1)) rfl
theorem dX16_isPushes_26 : decode cX16_isPushes 26 = .ok (.aload_n 0, 1) := dk_get daX16_isPushes 16 (r := (26, .aload_n 0, 1)) rfl
theorem dX16_isPushes_27 : decode cX16_isPushes 27 = .ok (.aload_n 1, 1) := dk_get daX16_isPushes 17 (r := (27, .aload_n 1, 1)) rfl
theorem dX16_isPushes_28 : decode cX16_isPushes 28 = .ok (.iload 4, 2) := dk_get daX16_isPushes 18 (r := (28, .iload 4, 2)) rfl
theorem dX16_isPushes_30 : decode cX16_isPushes 30 = .ok (.iload_n 2, 1) := dk_get daX16_isPushes 19 (r := (30, .iload_n 2, 1)) rfl
theorem dX16_isPushes_31 : decode cX16_isPushes 31 = .ok (.iload_n 3, 1) := dk_get daX16_isPushes 20 (r := (31, .iload_n 3, 1)) rfl
theorem dX16_isPushes_32 : decode cX16_isPushes 32 = .ok (.iadd, 1) := dk_get daX16_isPushes 21 (r := (32, .iadd, 1)) rfl
theorem dX16_isPushes_33 : decode cX16_isPushes 33 = .ok (.invokevirtual 423, 3) := dk_get daX16_isPushes 22 (r := (33, .invokevirtual 423, 3)) rfl
theorem dX16_isPushes_36 : decode cX16_isPushes 36 = .ok (.istore 4, 2) := dk_get daX16_isPushes 23 (r := (36, .istore 4, 2)) rfl
theorem dX16_isPushes_38 : decode cX16_isPushes 38 = .ok (.iload 4, 2) := dk_get daX16_isPushes 24 (r := (38, .iload 4, 2)) rfl
theorem dX16_isPushes_40 : decode cX16_isPushes 40 = .ok (.ifCond .ge (-37), 3) := dk_get daX16_isPushes 25 (r := (40, .ifCond .ge (-37), 3)) rfl
theorem dX16_isPushes_43 : decode cX16_isPushes 43 = .ok (.iconst 0, 1) := dk_get daX16_isPushes 26 (r := (43, .iconst 0, 1)) rfl
theorem dX16_isPushes_44 : decode cX16_isPushes 44 = .ok (.ireturn, 1) := dk_get daX16_isPushes 27 (r := (44, .ireturn, 1)) rfl
theorem dX16_isPushes_45 : decode cX16_isPushes 45 = .ok (.iconst 1, 1) := dk_get daX16_isPushes 28 (r := (45, .iconst 1, 1)) rfl
theorem dX16_isPushes_46 : decode cX16_isPushes 46 = .ok (.ireturn, 1) := dk_get daX16_isPushes 29 (r := (46, .ireturn, 1)) rfl
abbrev mX16_unlocks : ks_M := (RX16, cX16_unlocks, 13, (some .boolean), "unlocks")
def drX16_unlocks : List (Nat × Instr × Nat) := [(0, .aload_n 0, 1), (1, .aload_n 1, 1), (2, .iload_n 2, 1), (3, .iload_n 3, 1), (4, .invokevirtual 419, 3), (7, .istore 4, 2), (9, .aload_n 0, 1), (10, .getfield 461, 3), (13, .aload_n 0, 1), (14, .aload_n 1, 1), (15, .getfield 275, 3), (18, .iload 4, 2), (20, .aload_n 0, 1), (21, .aload_n 1, 1), (22, .getfield 275, 3), (25, .iload 4, 2), (27, .bipush 32, 2), (29, .iadd, 1), (30, .iconst 4, 1), (31, .invokevirtual 267, 3), (34, .aload_n 0, 1), (35, .getfield 461, 3), (38, .aload_n 0, 1), (39, .getfield 464, 3), (42, .invokevirtual 467, 3), (45, .iaload, 1), (46, .istore 5, 2), (48, .aload_n 0, 1), (49, .getfield 347, 3), (52, .iload 5, 2), (54, .sipush 3072, 3), (57, .idiv, 1), (58, .aaload, 1), (59, .getfield 457, 3), (62, .astore 6, 2), (64, .aload_n 0, 1), (65, .aload 6, 2), (67, .getfield 275, 3), (70, .aload_n 0, 1), (71, .aload 6, 2), (73, .iload 5, 2), (75, .sipush 256, 3), (78, .idiv, 1), (79, .bipush 12, 2), (81, .irem, 1), (82, .iload 5, 2), (84, .sipush 255, 3), (87, .iand, 1), (88, .invokevirtual 450, 3), (91, .bipush 8, 2), (93, .iadd, 1), (94, .invokevirtual 328, 3), (97, .pop, 1), (98, .aload_n 0, 1), (99, .getfield 325, 3), (102, .istore 7, 2), (104, .aload_n 0, 1), (105, .getfield 322, 3), (108, .istore 8, 2), (110, .aload_n 0, 1), (111, .aload_n 1, 1), (112, .getfield 275, 3), (115, .iload 4, 2), (117, .bipush 36, 2), (119, .iadd, 1), (120, .invokevirtual 328, 3), (123, .pop, 1), (124, .aload_n 0, 1), (125, .getfield 325, 3), (128, .istore 9, 2), (130, .aload_n 0, 1), (131, .getfield 322, 3), (134, .istore 10, 2), (136, .aload_n 0, 1), (137, .aload_n 1, 1), (138, .putfield 673, 3), (141, .aload_n 0, 1), (142, .iload_n 2, 1), (143, .putfield 676, 3), (146, .aload_n 0, 1), (147, .iload_n 3, 1), (148, .putfield 679, 3), (151, .aload_n 0, 1), (152, .iconst 0, 1), (153, .putfield 521, 3), (156, .aload_n 0, 1), (157, .aload_n 1, 1), (158, .getfield 275, 3), (161, .iload 9, 2), (163, .iload 10, 2), (165, .invokevirtual 702, 3), (168, .ifCond .ne 5, 3), (171, .iconst 0, 1), (172, .ireturn, 1), (173, .iload 8, 2), (175, .bipush 23, 2), (177, .if_icmp .ne 51, 3), (180, .aload 6, 2), (182, .getfield 275, 3), (185, .iload 7, 2), (187, .baload, 1), (188, .bipush (-87), 2), (190, .if_icmp .ne 38, 3), (193, .aload 6, 2), (195, .getfield 275, 3), (198, .iload 7, 2), (200, .iconst 1, 1), (201, .iadd, 1), (202, .baload, 1), (203, .bipush 20, 2), (205, .if_icmp .ne 23, 3), (208, .aload 6, 2), (210, .getfield 275, 3), (213, .iload 7, 2), (215, .bipush 22, 2), (217, .iadd, 1), (218, .baload, 1), (219, .bipush (-121), 2), (221, .if_icmp .ne 7, 3), (224, .iconst 1, 1), (225, .goto 4, 3), (228, .iconst 0, 1), (229, .istore 11, 2), (231, .iload 11, 2), (233, .ifCond .eq 7, 3), (236, .aload_n 0, 1), (237, .invokevirtual 705, 3), (240, .aload_n 0, 1), (241, .aload 6, 2), (243, .getfield 275, 3), (246, .iload 7, 2), (248, .iload 8, 2), (250, .invokevirtual 702, 3), (253, .ifCond .eq 18, 3), (256, .aload_n 0, 1), (257, .getfield 521, 3), (260, .ifCond .eq 11, 3), (263, .aload_n 0, 1), (264, .iconst 0, 1), (265, .invokevirtual 585, 3), (268, .ifCond .ne 5, 3), (271, .iconst 0, 1), (272, .ireturn, 1), (273, .iload 11, 2), (275, .ifCond .ne 5, 3), (278, .iconst 1, 1), (279, .ireturn, 1), (280, .aload_n 0, 1), (281, .aload_n 1, 1), (282, .getfield 275, 3), (285, .iload 9, 2), (287, .iload 10, 2), (289, .invokevirtual 708, 3), (292, .ifCond .ne 5, 3), (295, .iconst 0, 1), (296, .ireturn, 1), (297, .aload_n 0, 1), (298, .iconst 0, 1), (299, .putfield 521, 3), (302, .iconst 0, 1), (303, .istore 12, 2), (305, .iload 12, 2), (307, .aload_n 0, 1), (308, .getfield 711, 3), (311, .iconst 1, 1), (312, .isub, 1), (313, .if_icmp .ge 28, 3), (316, .aload_n 0, 1), (317, .aload_n 0, 1), (318, .getfield 714, 3), (321, .iload 12, 2), (323, .aaload, 1), (324, .iconst 0, 1), (325, .aload_n 0, 1), (326, .getfield 717, 3), (329, .iload 12, 2), (331, .iaload, 1), (332, .invokevirtual 538, 3), (335, .iinc 12 1, 3), (338, .goto (-33), 3), (341, .aload_n 0, 1), (342, .aload_n 0, 1), (343, .getfield 714, 3), (346, .aload_n 0, 1), (347, .getfield 711, 3), (350, .iconst 1, 1), (351, .isub, 1), (352, .aaload, 1), (353, .iconst 0, 1), (354, .aload_n 0, 1), (355, .getfield 717, 3), (358, .aload_n 0, 1), (359, .getfield 711, 3), (362, .iconst 1, 1), (363, .isub, 1), (364, .iaload, 1), (365, .invokevirtual 702, 3), (368, .ifCond .eq 22, 3), (371, .aload_n 0, 1), (372, .getfield 521, 3), (375, .ifCond .le 15, 3), (378, .aload_n 0, 1), (379, .iconst 0, 1), (380, .invokevirtual 585, 3), (383, .ifCond .eq 7, 3), (386, .iconst 1, 1), (387, .goto 4, 3), (390, .iconst 0, 1), (391, .ireturn, 1)]
set_option maxRecDepth 100000 in
theorem daX16_unlocks : dk_all cX16_unlocks drX16_unlocks = true := by decide +kernel
theorem dX16_unlocks_0 : decode cX16_unlocks 0 = .ok (.aload_n 0, 1) := dk_get daX16_unlocks 0 (r := (0, .aload_n 0, 1)) rfl
theorem dX16_unlocks_1 : decode cX16_unlocks 1 = .ok (.aload_n 1, 1) := dk_get daX16_unlocks 1 (r := (1, .aload_n 1, 1)) rfl
theorem dX16_unlocks_2 : decode cX16_unlocks 2 = .ok (.iload_n 2, 1) := dk_get daX16_unlocks 2 (r := (2, .iload_n 2, 1)) rfl
theorem dX16_unlocks_3 : decode cX16_unlocks 3 = .ok (.iload_n 3, 1) := dk_get daX16_unlocks 3 (r := (3, .iload_n 3, 1)) rfl
theorem dX16_unlocks_4 : decode cX16_unlocks 4 = .ok (.invokevirtual 419, 3) := dk_get daX16_unlocks 4 (r := (4, .invokevirtual 419, 3)) rfl
theorem dX16_unlocks_7 : decode cX16_unlocks 7 = .ok (.istore 4, 2) := dk_get daX16_unlocks 5 (r := (7, .istore 4, 2)) rfl
theorem dX16_unlocks_9 : decode cX16_unlocks 9 = .ok (.aload_n 0, 1) := dk_get daX16_unlocks 6 (r := (9, .aload_n 0, 1)) rfl
theorem dX16_unlocks_10 : decode cX16_unlocks 10 = .ok (.getfield 461, 3) := dk_get daX16_unlocks 7 (r := (10, .getfield 461, 3)) rfl
theorem dX16_unlocks_13 : decode cX16_unlocks 13 = .ok (.aload_n 0, 1) := dk_get daX16_unlocks 8 (r := (13, .aload_n 0, 1)) rfl
theorem dX16_unlocks_14 : decode cX16_unlocks 14 = .ok (.aload_n 1, 1) := dk_get daX16_unlocks 9 (r := (14, .aload_n 1, 1)) rfl
theorem dX16_unlocks_15 : decode cX16_unlocks 15 = .ok (.getfield 275, 3) := dk_get daX16_unlocks 10 (r := (15, .getfield 275, 3)) rfl
theorem dX16_unlocks_18 : decode cX16_unlocks 18 = .ok (.iload 4, 2) := dk_get daX16_unlocks 11 (r := (18, .iload 4, 2)) rfl
theorem dX16_unlocks_20 : decode cX16_unlocks 20 = .ok (.aload_n 0, 1) := dk_get daX16_unlocks 12 (r := (20, .aload_n 0, 1)) rfl
theorem dX16_unlocks_21 : decode cX16_unlocks 21 = .ok (.aload_n 1, 1) := dk_get daX16_unlocks 13 (r := (21, .aload_n 1, 1)) rfl
theorem dX16_unlocks_22 : decode cX16_unlocks 22 = .ok (.getfield 275, 3) := dk_get daX16_unlocks 14 (r := (22, .getfield 275, 3)) rfl
theorem dX16_unlocks_25 : decode cX16_unlocks 25 = .ok (.iload 4, 2) := dk_get daX16_unlocks 15 (r := (25, .iload 4, 2)) rfl
theorem dX16_unlocks_27 : decode cX16_unlocks 27 = .ok (.bipush 32, 2) := dk_get daX16_unlocks 16 (r := (27, .bipush 32, 2)) rfl
theorem dX16_unlocks_29 : decode cX16_unlocks 29 = .ok (.iadd, 1) := dk_get daX16_unlocks 17 (r := (29, .iadd, 1)) rfl
theorem dX16_unlocks_30 : decode cX16_unlocks 30 = .ok (.iconst 4, 1) := dk_get daX16_unlocks 18 (r := (30, .iconst 4, 1)) rfl
theorem dX16_unlocks_31 : decode cX16_unlocks 31 = .ok (.invokevirtual 267, 3) := dk_get daX16_unlocks 19 (r := (31, .invokevirtual 267, 3)) rfl
theorem dX16_unlocks_34 : decode cX16_unlocks 34 = .ok (.aload_n 0, 1) := dk_get daX16_unlocks 20 (r := (34, .aload_n 0, 1)) rfl
theorem dX16_unlocks_35 : decode cX16_unlocks 35 = .ok (.getfield 461, 3) := dk_get daX16_unlocks 21 (r := (35, .getfield 461, 3)) rfl
theorem dX16_unlocks_38 : decode cX16_unlocks 38 = .ok (.aload_n 0, 1) := dk_get daX16_unlocks 22 (r := (38, .aload_n 0, 1)) rfl
theorem dX16_unlocks_39 : decode cX16_unlocks 39 = .ok (.getfield 464, 3) := dk_get daX16_unlocks 23 (r := (39, .getfield 464, 3)) rfl
theorem dX16_unlocks_42 : decode cX16_unlocks 42 = .ok (.invokevirtual 467, 3) := dk_get daX16_unlocks 24 (r := (42, .invokevirtual 467, 3)) rfl
theorem dX16_unlocks_45 : decode cX16_unlocks 45 = .ok (.iaload, 1) := dk_get daX16_unlocks 25 (r := (45, .iaload, 1)) rfl
theorem dX16_unlocks_46 : decode cX16_unlocks 46 = .ok (.istore 5, 2) := dk_get daX16_unlocks 26 (r := (46, .istore 5, 2)) rfl
theorem dX16_unlocks_48 : decode cX16_unlocks 48 = .ok (.aload_n 0, 1) := dk_get daX16_unlocks 27 (r := (48, .aload_n 0, 1)) rfl
theorem dX16_unlocks_49 : decode cX16_unlocks 49 = .ok (.getfield 347, 3) := dk_get daX16_unlocks 28 (r := (49, .getfield 347, 3)) rfl
theorem dX16_unlocks_52 : decode cX16_unlocks 52 = .ok (.iload 5, 2) := dk_get daX16_unlocks 29 (r := (52, .iload 5, 2)) rfl
theorem dX16_unlocks_54 : decode cX16_unlocks 54 = .ok (.sipush 3072, 3) := dk_get daX16_unlocks 30 (r := (54, .sipush 3072, 3)) rfl
theorem dX16_unlocks_57 : decode cX16_unlocks 57 = .ok (.idiv, 1) := dk_get daX16_unlocks 31 (r := (57, .idiv, 1)) rfl
theorem dX16_unlocks_58 : decode cX16_unlocks 58 = .ok (.aaload, 1) := dk_get daX16_unlocks 32 (r := (58, .aaload, 1)) rfl
theorem dX16_unlocks_59 : decode cX16_unlocks 59 = .ok (.getfield 457, 3) := dk_get daX16_unlocks 33 (r := (59, .getfield 457, 3)) rfl
theorem dX16_unlocks_62 : decode cX16_unlocks 62 = .ok (.astore 6, 2) := dk_get daX16_unlocks 34 (r := (62, .astore 6, 2)) rfl
theorem dX16_unlocks_64 : decode cX16_unlocks 64 = .ok (.aload_n 0, 1) := dk_get daX16_unlocks 35 (r := (64, .aload_n 0, 1)) rfl
theorem dX16_unlocks_65 : decode cX16_unlocks 65 = .ok (.aload 6, 2) := dk_get daX16_unlocks 36 (r := (65, .aload 6, 2)) rfl
theorem dX16_unlocks_67 : decode cX16_unlocks 67 = .ok (.getfield 275, 3) := dk_get daX16_unlocks 37 (r := (67, .getfield 275, 3)) rfl
theorem dX16_unlocks_70 : decode cX16_unlocks 70 = .ok (.aload_n 0, 1) := dk_get daX16_unlocks 38 (r := (70, .aload_n 0, 1)) rfl
theorem dX16_unlocks_71 : decode cX16_unlocks 71 = .ok (.aload 6, 2) := dk_get daX16_unlocks 39 (r := (71, .aload 6, 2)) rfl
theorem dX16_unlocks_73 : decode cX16_unlocks 73 = .ok (.iload 5, 2) := dk_get daX16_unlocks 40 (r := (73, .iload 5, 2)) rfl
theorem dX16_unlocks_75 : decode cX16_unlocks 75 = .ok (.sipush 256, 3) := dk_get daX16_unlocks 41 (r := (75, .sipush 256, 3)) rfl
theorem dX16_unlocks_78 : decode cX16_unlocks 78 = .ok (.idiv, 1) := dk_get daX16_unlocks 42 (r := (78, .idiv, 1)) rfl
theorem dX16_unlocks_79 : decode cX16_unlocks 79 = .ok (.bipush 12, 2) := dk_get daX16_unlocks 43 (r := (79, .bipush 12, 2)) rfl
theorem dX16_unlocks_81 : decode cX16_unlocks 81 = .ok (.irem, 1) := dk_get daX16_unlocks 44 (r := (81, .irem, 1)) rfl
theorem dX16_unlocks_82 : decode cX16_unlocks 82 = .ok (.iload 5, 2) := dk_get daX16_unlocks 45 (r := (82, .iload 5, 2)) rfl
theorem dX16_unlocks_84 : decode cX16_unlocks 84 = .ok (.sipush 255, 3) := dk_get daX16_unlocks 46 (r := (84, .sipush 255, 3)) rfl
theorem dX16_unlocks_87 : decode cX16_unlocks 87 = .ok (.iand, 1) := dk_get daX16_unlocks 47 (r := (87, .iand, 1)) rfl
theorem dX16_unlocks_88 : decode cX16_unlocks 88 = .ok (.invokevirtual 450, 3) := dk_get daX16_unlocks 48 (r := (88, .invokevirtual 450, 3)) rfl
theorem dX16_unlocks_91 : decode cX16_unlocks 91 = .ok (.bipush 8, 2) := dk_get daX16_unlocks 49 (r := (91, .bipush 8, 2)) rfl
theorem dX16_unlocks_93 : decode cX16_unlocks 93 = .ok (.iadd, 1) := dk_get daX16_unlocks 50 (r := (93, .iadd, 1)) rfl
theorem dX16_unlocks_94 : decode cX16_unlocks 94 = .ok (.invokevirtual 328, 3) := dk_get daX16_unlocks 51 (r := (94, .invokevirtual 328, 3)) rfl
theorem dX16_unlocks_97 : decode cX16_unlocks 97 = .ok (.pop, 1) := dk_get daX16_unlocks 52 (r := (97, .pop, 1)) rfl
theorem dX16_unlocks_98 : decode cX16_unlocks 98 = .ok (.aload_n 0, 1) := dk_get daX16_unlocks 53 (r := (98, .aload_n 0, 1)) rfl
theorem dX16_unlocks_99 : decode cX16_unlocks 99 = .ok (.getfield 325, 3) := dk_get daX16_unlocks 54 (r := (99, .getfield 325, 3)) rfl
theorem dX16_unlocks_102 : decode cX16_unlocks 102 = .ok (.istore 7, 2) := dk_get daX16_unlocks 55 (r := (102, .istore 7, 2)) rfl
theorem dX16_unlocks_104 : decode cX16_unlocks 104 = .ok (.aload_n 0, 1) := dk_get daX16_unlocks 56 (r := (104, .aload_n 0, 1)) rfl
theorem dX16_unlocks_105 : decode cX16_unlocks 105 = .ok (.getfield 322, 3) := dk_get daX16_unlocks 57 (r := (105, .getfield 322, 3)) rfl
theorem dX16_unlocks_108 : decode cX16_unlocks 108 = .ok (.istore 8, 2) := dk_get daX16_unlocks 58 (r := (108, .istore 8, 2)) rfl
theorem dX16_unlocks_110 : decode cX16_unlocks 110 = .ok (.aload_n 0, 1) := dk_get daX16_unlocks 59 (r := (110, .aload_n 0, 1)) rfl
theorem dX16_unlocks_111 : decode cX16_unlocks 111 = .ok (.aload_n 1, 1) := dk_get daX16_unlocks 60 (r := (111, .aload_n 1, 1)) rfl
theorem dX16_unlocks_112 : decode cX16_unlocks 112 = .ok (.getfield 275, 3) := dk_get daX16_unlocks 61 (r := (112, .getfield 275, 3)) rfl
theorem dX16_unlocks_115 : decode cX16_unlocks 115 = .ok (.iload 4, 2) := dk_get daX16_unlocks 62 (r := (115, .iload 4, 2)) rfl
theorem dX16_unlocks_117 : decode cX16_unlocks 117 = .ok (.bipush 36, 2) := dk_get daX16_unlocks 63 (r := (117, .bipush 36, 2)) rfl
theorem dX16_unlocks_119 : decode cX16_unlocks 119 = .ok (.iadd, 1) := dk_get daX16_unlocks 64 (r := (119, .iadd, 1)) rfl
theorem dX16_unlocks_120 : decode cX16_unlocks 120 = .ok (.invokevirtual 328, 3) := dk_get daX16_unlocks 65 (r := (120, .invokevirtual 328, 3)) rfl
theorem dX16_unlocks_123 : decode cX16_unlocks 123 = .ok (.pop, 1) := dk_get daX16_unlocks 66 (r := (123, .pop, 1)) rfl
theorem dX16_unlocks_124 : decode cX16_unlocks 124 = .ok (.aload_n 0, 1) := dk_get daX16_unlocks 67 (r := (124, .aload_n 0, 1)) rfl
theorem dX16_unlocks_125 : decode cX16_unlocks 125 = .ok (.getfield 325, 3) := dk_get daX16_unlocks 68 (r := (125, .getfield 325, 3)) rfl
theorem dX16_unlocks_128 : decode cX16_unlocks 128 = .ok (.istore 9, 2) := dk_get daX16_unlocks 69 (r := (128, .istore 9, 2)) rfl
theorem dX16_unlocks_130 : decode cX16_unlocks 130 = .ok (.aload_n 0, 1) := dk_get daX16_unlocks 70 (r := (130, .aload_n 0, 1)) rfl
theorem dX16_unlocks_131 : decode cX16_unlocks 131 = .ok (.getfield 322, 3) := dk_get daX16_unlocks 71 (r := (131, .getfield 322, 3)) rfl
theorem dX16_unlocks_134 : decode cX16_unlocks 134 = .ok (.istore 10, 2) := dk_get daX16_unlocks 72 (r := (134, .istore 10, 2)) rfl
theorem dX16_unlocks_136 : decode cX16_unlocks 136 = .ok (.aload_n 0, 1) := dk_get daX16_unlocks 73 (r := (136, .aload_n 0, 1)) rfl
theorem dX16_unlocks_137 : decode cX16_unlocks 137 = .ok (.aload_n 1, 1) := dk_get daX16_unlocks 74 (r := (137, .aload_n 1, 1)) rfl
theorem dX16_unlocks_138 : decode cX16_unlocks 138 = .ok (.putfield 673, 3) := dk_get daX16_unlocks 75 (r := (138, .putfield 673, 3)) rfl
theorem dX16_unlocks_141 : decode cX16_unlocks 141 = .ok (.aload_n 0, 1) := dk_get daX16_unlocks 76 (r := (141, .aload_n 0, 1)) rfl
theorem dX16_unlocks_142 : decode cX16_unlocks 142 = .ok (.iload_n 2, 1) := dk_get daX16_unlocks 77 (r := (142, .iload_n 2, 1)) rfl
theorem dX16_unlocks_143 : decode cX16_unlocks 143 = .ok (.putfield 676, 3) := dk_get daX16_unlocks 78 (r := (143, .putfield 676, 3)) rfl
theorem dX16_unlocks_146 : decode cX16_unlocks 146 = .ok (.aload_n 0, 1) := dk_get daX16_unlocks 79 (r := (146, .aload_n 0, 1)) rfl
theorem dX16_unlocks_147 : decode cX16_unlocks 147 = .ok (.iload_n 3, 1) := dk_get daX16_unlocks 80 (r := (147, .iload_n 3, 1)) rfl
theorem dX16_unlocks_148 : decode cX16_unlocks 148 = .ok (.putfield 679, 3) := dk_get daX16_unlocks 81 (r := (148, .putfield 679, 3)) rfl
theorem dX16_unlocks_151 : decode cX16_unlocks 151 = .ok (.aload_n 0, 1) := dk_get daX16_unlocks 82 (r := (151, .aload_n 0, 1)) rfl
theorem dX16_unlocks_152 : decode cX16_unlocks 152 = .ok (.iconst 0, 1) := dk_get daX16_unlocks 83 (r := (152, .iconst 0, 1)) rfl
theorem dX16_unlocks_153 : decode cX16_unlocks 153 = .ok (.putfield 521, 3) := dk_get daX16_unlocks 84 (r := (153, .putfield 521, 3)) rfl
theorem dX16_unlocks_156 : decode cX16_unlocks 156 = .ok (.aload_n 0, 1) := dk_get daX16_unlocks 85 (r := (156, .aload_n 0, 1)) rfl
theorem dX16_unlocks_157 : decode cX16_unlocks 157 = .ok (.aload_n 1, 1) := dk_get daX16_unlocks 86 (r := (157, .aload_n 1, 1)) rfl
theorem dX16_unlocks_158 : decode cX16_unlocks 158 = .ok (.getfield 275, 3) := dk_get daX16_unlocks 87 (r := (158, .getfield 275, 3)) rfl
theorem dX16_unlocks_161 : decode cX16_unlocks 161 = .ok (.iload 9, 2) := dk_get daX16_unlocks 88 (r := (161, .iload 9, 2)) rfl
theorem dX16_unlocks_163 : decode cX16_unlocks 163 = .ok (.iload 10, 2) := dk_get daX16_unlocks 89 (r := (163, .iload 10, 2)) rfl
theorem dX16_unlocks_165 : decode cX16_unlocks 165 = .ok (.invokevirtual 702, 3) := dk_get daX16_unlocks 90 (r := (165, .invokevirtual 702, 3)) rfl
theorem dX16_unlocks_168 : decode cX16_unlocks 168 = .ok (.ifCond .ne 5, 3) := dk_get daX16_unlocks 91 (r := (168, .ifCond .ne 5, 3)) rfl
theorem dX16_unlocks_171 : decode cX16_unlocks 171 = .ok (.iconst 0, 1) := dk_get daX16_unlocks 92 (r := (171, .iconst 0, 1)) rfl
theorem dX16_unlocks_172 : decode cX16_unlocks 172 = .ok (.ireturn, 1) := dk_get daX16_unlocks 93 (r := (172, .ireturn, 1)) rfl
theorem dX16_unlocks_173 : decode cX16_unlocks 173 = .ok (.iload 8, 2) := dk_get daX16_unlocks 94 (r := (173, .iload 8, 2)) rfl
theorem dX16_unlocks_175 : decode cX16_unlocks 175 = .ok (.bipush 23, 2) := dk_get daX16_unlocks 95 (r := (175, .bipush 23, 2)) rfl
theorem dX16_unlocks_177 : decode cX16_unlocks 177 = .ok (.if_icmp .ne 51, 3) := dk_get daX16_unlocks 96 (r := (177, .if_icmp .ne 51, 3)) rfl
theorem dX16_unlocks_180 : decode cX16_unlocks 180 = .ok (.aload 6, 2) := dk_get daX16_unlocks 97 (r := (180, .aload 6, 2)) rfl
theorem dX16_unlocks_182 : decode cX16_unlocks 182 = .ok (.getfield 275, 3) := dk_get daX16_unlocks 98 (r := (182, .getfield 275, 3)) rfl
theorem dX16_unlocks_185 : decode cX16_unlocks 185 = .ok (.iload 7, 2) := dk_get daX16_unlocks 99 (r := (185, .iload 7, 2)) rfl
theorem dX16_unlocks_187 : decode cX16_unlocks 187 = .ok (.baload, 1) := dk_get daX16_unlocks 100 (r := (187, .baload, 1)) rfl
theorem dX16_unlocks_188 : decode cX16_unlocks 188 = .ok (.bipush (-87), 2) := dk_get daX16_unlocks 101 (r := (188, .bipush (-87), 2)) rfl
theorem dX16_unlocks_190 : decode cX16_unlocks 190 = .ok (.if_icmp .ne 38, 3) := dk_get daX16_unlocks 102 (r := (190, .if_icmp .ne 38, 3)) rfl
theorem dX16_unlocks_193 : decode cX16_unlocks 193 = .ok (.aload 6, 2) := dk_get daX16_unlocks 103 (r := (193, .aload 6, 2)) rfl
theorem dX16_unlocks_195 : decode cX16_unlocks 195 = .ok (.getfield 275, 3) := dk_get daX16_unlocks 104 (r := (195, .getfield 275, 3)) rfl
theorem dX16_unlocks_198 : decode cX16_unlocks 198 = .ok (.iload 7, 2) := dk_get daX16_unlocks 105 (r := (198, .iload 7, 2)) rfl
theorem dX16_unlocks_200 : decode cX16_unlocks 200 = .ok (.iconst 1, 1) := dk_get daX16_unlocks 106 (r := (200, .iconst 1, 1)) rfl
theorem dX16_unlocks_201 : decode cX16_unlocks 201 = .ok (.iadd, 1) := dk_get daX16_unlocks 107 (r := (201, .iadd, 1)) rfl
theorem dX16_unlocks_202 : decode cX16_unlocks 202 = .ok (.baload, 1) := dk_get daX16_unlocks 108 (r := (202, .baload, 1)) rfl
theorem dX16_unlocks_203 : decode cX16_unlocks 203 = .ok (.bipush 20, 2) := dk_get daX16_unlocks 109 (r := (203, .bipush 20, 2)) rfl
theorem dX16_unlocks_205 : decode cX16_unlocks 205 = .ok (.if_icmp .ne 23, 3) := dk_get daX16_unlocks 110 (r := (205, .if_icmp .ne 23, 3)) rfl
theorem dX16_unlocks_208 : decode cX16_unlocks 208 = .ok (.aload 6, 2) := dk_get daX16_unlocks 111 (r := (208, .aload 6, 2)) rfl
theorem dX16_unlocks_210 : decode cX16_unlocks 210 = .ok (.getfield 275, 3) := dk_get daX16_unlocks 112 (r := (210, .getfield 275, 3)) rfl
theorem dX16_unlocks_213 : decode cX16_unlocks 213 = .ok (.iload 7, 2) := dk_get daX16_unlocks 113 (r := (213, .iload 7, 2)) rfl
theorem dX16_unlocks_215 : decode cX16_unlocks 215 = .ok (.bipush 22, 2) := dk_get daX16_unlocks 114 (r := (215, .bipush 22, 2)) rfl
theorem dX16_unlocks_217 : decode cX16_unlocks 217 = .ok (.iadd, 1) := dk_get daX16_unlocks 115 (r := (217, .iadd, 1)) rfl
theorem dX16_unlocks_218 : decode cX16_unlocks 218 = .ok (.baload, 1) := dk_get daX16_unlocks 116 (r := (218, .baload, 1)) rfl
theorem dX16_unlocks_219 : decode cX16_unlocks 219 = .ok (.bipush (-121), 2) := dk_get daX16_unlocks 117 (r := (219, .bipush (-121), 2)) rfl
theorem dX16_unlocks_221 : decode cX16_unlocks 221 = .ok (.if_icmp .ne 7, 3) := dk_get daX16_unlocks 118 (r := (221, .if_icmp .ne 7, 3)) rfl
theorem dX16_unlocks_224 : decode cX16_unlocks 224 = .ok (.iconst 1, 1) := dk_get daX16_unlocks 119 (r := (224, .iconst 1, 1)) rfl
theorem dX16_unlocks_225 : decode cX16_unlocks 225 = .ok (.goto 4, 3) := dk_get daX16_unlocks 120 (r := (225, .goto 4, 3)) rfl
theorem dX16_unlocks_228 : decode cX16_unlocks 228 = .ok (.iconst 0, 1) := dk_get daX16_unlocks 121 (r := (228, .iconst 0, 1)) rfl
theorem dX16_unlocks_229 : decode cX16_unlocks 229 = .ok (.istore 11, 2) := dk_get daX16_unlocks 122 (r := (229, .istore 11, 2)) rfl
theorem dX16_unlocks_231 : decode cX16_unlocks 231 = .ok (.iload 11, 2) := dk_get daX16_unlocks 123 (r := (231, .iload 11, 2)) rfl
theorem dX16_unlocks_233 : decode cX16_unlocks 233 = .ok (.ifCond .eq 7, 3) := dk_get daX16_unlocks 124 (r := (233, .ifCond .eq 7, 3)) rfl
theorem dX16_unlocks_236 : decode cX16_unlocks 236 = .ok (.aload_n 0, 1) := dk_get daX16_unlocks 125 (r := (236, .aload_n 0, 1)) rfl
theorem dX16_unlocks_237 : decode cX16_unlocks 237 = .ok (.invokevirtual 705, 3) := dk_get daX16_unlocks 126 (r := (237, .invokevirtual 705, 3)) rfl
theorem dX16_unlocks_240 : decode cX16_unlocks 240 = .ok (.aload_n 0, 1) := dk_get daX16_unlocks 127 (r := (240, .aload_n 0, 1)) rfl
theorem dX16_unlocks_241 : decode cX16_unlocks 241 = .ok (.aload 6, 2) := dk_get daX16_unlocks 128 (r := (241, .aload 6, 2)) rfl
theorem dX16_unlocks_243 : decode cX16_unlocks 243 = .ok (.getfield 275, 3) := dk_get daX16_unlocks 129 (r := (243, .getfield 275, 3)) rfl
theorem dX16_unlocks_246 : decode cX16_unlocks 246 = .ok (.iload 7, 2) := dk_get daX16_unlocks 130 (r := (246, .iload 7, 2)) rfl
theorem dX16_unlocks_248 : decode cX16_unlocks 248 = .ok (.iload 8, 2) := dk_get daX16_unlocks 131 (r := (248, .iload 8, 2)) rfl
theorem dX16_unlocks_250 : decode cX16_unlocks 250 = .ok (.invokevirtual 702, 3) := dk_get daX16_unlocks 132 (r := (250, .invokevirtual 702, 3)) rfl
theorem dX16_unlocks_253 : decode cX16_unlocks 253 = .ok (.ifCond .eq 18, 3) := dk_get daX16_unlocks 133 (r := (253, .ifCond .eq 18, 3)) rfl
theorem dX16_unlocks_256 : decode cX16_unlocks 256 = .ok (.aload_n 0, 1) := dk_get daX16_unlocks 134 (r := (256, .aload_n 0, 1)) rfl
theorem dX16_unlocks_257 : decode cX16_unlocks 257 = .ok (.getfield 521, 3) := dk_get daX16_unlocks 135 (r := (257, .getfield 521, 3)) rfl
theorem dX16_unlocks_260 : decode cX16_unlocks 260 = .ok (.ifCond .eq 11, 3) := dk_get daX16_unlocks 136 (r := (260, .ifCond .eq 11, 3)) rfl
theorem dX16_unlocks_263 : decode cX16_unlocks 263 = .ok (.aload_n 0, 1) := dk_get daX16_unlocks 137 (r := (263, .aload_n 0, 1)) rfl
theorem dX16_unlocks_264 : decode cX16_unlocks 264 = .ok (.iconst 0, 1) := dk_get daX16_unlocks 138 (r := (264, .iconst 0, 1)) rfl
theorem dX16_unlocks_265 : decode cX16_unlocks 265 = .ok (.invokevirtual 585, 3) := dk_get daX16_unlocks 139 (r := (265, .invokevirtual 585, 3)) rfl
theorem dX16_unlocks_268 : decode cX16_unlocks 268 = .ok (.ifCond .ne 5, 3) := dk_get daX16_unlocks 140 (r := (268, .ifCond .ne 5, 3)) rfl
theorem dX16_unlocks_271 : decode cX16_unlocks 271 = .ok (.iconst 0, 1) := dk_get daX16_unlocks 141 (r := (271, .iconst 0, 1)) rfl
theorem dX16_unlocks_272 : decode cX16_unlocks 272 = .ok (.ireturn, 1) := dk_get daX16_unlocks 142 (r := (272, .ireturn, 1)) rfl
theorem dX16_unlocks_273 : decode cX16_unlocks 273 = .ok (.iload 11, 2) := dk_get daX16_unlocks 143 (r := (273, .iload 11, 2)) rfl
theorem dX16_unlocks_275 : decode cX16_unlocks 275 = .ok (.ifCond .ne 5, 3) := dk_get daX16_unlocks 144 (r := (275, .ifCond .ne 5, 3)) rfl
theorem dX16_unlocks_278 : decode cX16_unlocks 278 = .ok (.iconst 1, 1) := dk_get daX16_unlocks 145 (r := (278, .iconst 1, 1)) rfl
theorem dX16_unlocks_279 : decode cX16_unlocks 279 = .ok (.ireturn, 1) := dk_get daX16_unlocks 146 (r := (279, .ireturn, 1)) rfl
theorem dX16_unlocks_280 : decode cX16_unlocks 280 = .ok (.aload_n 0, 1) := dk_get daX16_unlocks 147 (r := (280, .aload_n 0, 1)) rfl
theorem dX16_unlocks_281 : decode cX16_unlocks 281 = .ok (.aload_n 1, 1) := dk_get daX16_unlocks 148 (r := (281, .aload_n 1, 1)) rfl
theorem dX16_unlocks_282 : decode cX16_unlocks 282 = .ok (.getfield 275, 3) := dk_get daX16_unlocks 149 (r := (282, .getfield 275, 3)) rfl
theorem dX16_unlocks_285 : decode cX16_unlocks 285 = .ok (.iload 9, 2) := dk_get daX16_unlocks 150 (r := (285, .iload 9, 2)) rfl
theorem dX16_unlocks_287 : decode cX16_unlocks 287 = .ok (.iload 10, 2) := dk_get daX16_unlocks 151 (r := (287, .iload 10, 2)) rfl
theorem dX16_unlocks_289 : decode cX16_unlocks 289 = .ok (.invokevirtual 708, 3) := dk_get daX16_unlocks 152 (r := (289, .invokevirtual 708, 3)) rfl
theorem dX16_unlocks_292 : decode cX16_unlocks 292 = .ok (.ifCond .ne 5, 3) := dk_get daX16_unlocks 153 (r := (292, .ifCond .ne 5, 3)) rfl
theorem dX16_unlocks_295 : decode cX16_unlocks 295 = .ok (.iconst 0, 1) := dk_get daX16_unlocks 154 (r := (295, .iconst 0, 1)) rfl
theorem dX16_unlocks_296 : decode cX16_unlocks 296 = .ok (.ireturn, 1) := dk_get daX16_unlocks 155 (r := (296, .ireturn, 1)) rfl
theorem dX16_unlocks_297 : decode cX16_unlocks 297 = .ok (.aload_n 0, 1) := dk_get daX16_unlocks 156 (r := (297, .aload_n 0, 1)) rfl
theorem dX16_unlocks_298 : decode cX16_unlocks 298 = .ok (.iconst 0, 1) := dk_get daX16_unlocks 157 (r := (298, .iconst 0, 1)) rfl
theorem dX16_unlocks_299 : decode cX16_unlocks 299 = .ok (.putfield 521, 3) := dk_get daX16_unlocks 158 (r := (299, .putfield 521, 3)) rfl
theorem dX16_unlocks_302 : decode cX16_unlocks 302 = .ok (.iconst 0, 1) := dk_get daX16_unlocks 159 (r := (302, .iconst 0, 1)) rfl
theorem dX16_unlocks_303 : decode cX16_unlocks 303 = .ok (.istore 12, 2) := dk_get daX16_unlocks 160 (r := (303, .istore 12, 2)) rfl
theorem dX16_unlocks_305 : decode cX16_unlocks 305 = .ok (.iload 12, 2) := dk_get daX16_unlocks 161 (r := (305, .iload 12, 2)) rfl
theorem dX16_unlocks_307 : decode cX16_unlocks 307 = .ok (.aload_n 0, 1) := dk_get daX16_unlocks 162 (r := (307, .aload_n 0, 1)) rfl
theorem dX16_unlocks_308 : decode cX16_unlocks 308 = .ok (.getfield 711, 3) := dk_get daX16_unlocks 163 (r := (308, .getfield 711, 3)) rfl
theorem dX16_unlocks_311 : decode cX16_unlocks 311 = .ok (.iconst 1, 1) := dk_get daX16_unlocks 164 (r := (311, .iconst 1, 1)) rfl
theorem dX16_unlocks_312 : decode cX16_unlocks 312 = .ok (.isub, 1) := dk_get daX16_unlocks 165 (r := (312, .isub, 1)) rfl
theorem dX16_unlocks_313 : decode cX16_unlocks 313 = .ok (.if_icmp .ge 28, 3) := dk_get daX16_unlocks 166 (r := (313, .if_icmp .ge 28, 3)) rfl
theorem dX16_unlocks_316 : decode cX16_unlocks 316 = .ok (.aload_n 0, 1) := dk_get daX16_unlocks 167 (r := (316, .aload_n 0, 1)) rfl
theorem dX16_unlocks_317 : decode cX16_unlocks 317 = .ok (.aload_n 0, 1) := dk_get daX16_unlocks 168 (r := (317, .aload_n 0, 1)) rfl
theorem dX16_unlocks_318 : decode cX16_unlocks 318 = .ok (.getfield 714, 3) := dk_get daX16_unlocks 169 (r := (318, .getfield 714, 3)) rfl
theorem dX16_unlocks_321 : decode cX16_unlocks 321 = .ok (.iload 12, 2) := dk_get daX16_unlocks 170 (r := (321, .iload 12, 2)) rfl
theorem dX16_unlocks_323 : decode cX16_unlocks 323 = .ok (.aaload, 1) := dk_get daX16_unlocks 171 (r := (323, .aaload, 1)) rfl
theorem dX16_unlocks_324 : decode cX16_unlocks 324 = .ok (.iconst 0, 1) := dk_get daX16_unlocks 172 (r := (324, .iconst 0, 1)) rfl
theorem dX16_unlocks_325 : decode cX16_unlocks 325 = .ok (.aload_n 0, 1) := dk_get daX16_unlocks 173 (r := (325, .aload_n 0, 1)) rfl
theorem dX16_unlocks_326 : decode cX16_unlocks 326 = .ok (.getfield 717, 3) := dk_get daX16_unlocks 174 (r := (326, .getfield 717, 3)) rfl
theorem dX16_unlocks_329 : decode cX16_unlocks 329 = .ok (.iload 12, 2) := dk_get daX16_unlocks 175 (r := (329, .iload 12, 2)) rfl
theorem dX16_unlocks_331 : decode cX16_unlocks 331 = .ok (.iaload, 1) := dk_get daX16_unlocks 176 (r := (331, .iaload, 1)) rfl
theorem dX16_unlocks_332 : decode cX16_unlocks 332 = .ok (.invokevirtual 538, 3) := dk_get daX16_unlocks 177 (r := (332, .invokevirtual 538, 3)) rfl
theorem dX16_unlocks_335 : decode cX16_unlocks 335 = .ok (.iinc 12 1, 3) := dk_get daX16_unlocks 178 (r := (335, .iinc 12 1, 3)) rfl
theorem dX16_unlocks_338 : decode cX16_unlocks 338 = .ok (.goto (-33), 3) := dk_get daX16_unlocks 179 (r := (338, .goto (-33), 3)) rfl
theorem dX16_unlocks_341 : decode cX16_unlocks 341 = .ok (.aload_n 0, 1) := dk_get daX16_unlocks 180 (r := (341, .aload_n 0, 1)) rfl
theorem dX16_unlocks_342 : decode cX16_unlocks 342 = .ok (.aload_n 0, 1) := dk_get daX16_unlocks 181 (r := (342, .aload_n 0, 1)) rfl
theorem dX16_unlocks_343 : decode cX16_unlocks 343 = .ok (.getfield 714, 3) := dk_get daX16_unlocks 182 (r := (343, .getfield 714, 3)) rfl
theorem dX16_unlocks_346 : decode cX16_unlocks 346 = .ok (.aload_n 0, 1) := dk_get daX16_unlocks 183 (r := (346, .aload_n 0, 1)) rfl
theorem dX16_unlocks_347 : decode cX16_unlocks 347 = .ok (.getfield 711, 3) := dk_get daX16_unlocks 184 (r := (347, .getfield 711, 3)) rfl
theorem dX16_unlocks_350 : decode cX16_unlocks 350 = .ok (.iconst 1, 1) := dk_get daX16_unlocks 185 (r := (350, .iconst 1, 1)) rfl
theorem dX16_unlocks_351 : decode cX16_unlocks 351 = .ok (.isub, 1) := dk_get daX16_unlocks 186 (r := (351, .isub, 1)) rfl
theorem dX16_unlocks_352 : decode cX16_unlocks 352 = .ok (.aaload, 1) := dk_get daX16_unlocks 187 (r := (352, .aaload, 1)) rfl
theorem dX16_unlocks_353 : decode cX16_unlocks 353 = .ok (.iconst 0, 1) := dk_get daX16_unlocks 188 (r := (353, .iconst 0, 1)) rfl
theorem dX16_unlocks_354 : decode cX16_unlocks 354 = .ok (.aload_n 0, 1) := dk_get daX16_unlocks 189 (r := (354, .aload_n 0, 1)) rfl
theorem dX16_unlocks_355 : decode cX16_unlocks 355 = .ok (.getfield 717, 3) := dk_get daX16_unlocks 190 (r := (355, .getfield 717, 3)) rfl
theorem dX16_unlocks_358 : decode cX16_unlocks 358 = .ok (.aload_n 0, 1) := dk_get daX16_unlocks 191 (r := (358, .aload_n 0, 1)) rfl
theorem dX16_unlocks_359 : decode cX16_unlocks 359 = .ok (.getfield 711, 3) := dk_get daX16_unlocks 192 (r := (359, .getfield 711, 3)) rfl
theorem dX16_unlocks_362 : decode cX16_unlocks 362 = .ok (.iconst 1, 1) := dk_get daX16_unlocks 193 (r := (362, .iconst 1, 1)) rfl
theorem dX16_unlocks_363 : decode cX16_unlocks 363 = .ok (.isub, 1) := dk_get daX16_unlocks 194 (r := (363, .isub, 1)) rfl
theorem dX16_unlocks_364 : decode cX16_unlocks 364 = .ok (.iaload, 1) := dk_get daX16_unlocks 195 (r := (364, .iaload, 1)) rfl
theorem dX16_unlocks_365 : decode cX16_unlocks 365 = .ok (.invokevirtual 702, 3) := dk_get daX16_unlocks 196 (r := (365, .invokevirtual 702, 3)) rfl
theorem dX16_unlocks_368 : decode cX16_unlocks 368 = .ok (.ifCond .eq 22, 3) := dk_get daX16_unlocks 197 (r := (368, .ifCond .eq 22, 3)) rfl
theorem dX16_unlocks_371 : decode cX16_unlocks 371 = .ok (.aload_n 0, 1) := dk_get daX16_unlocks 198 (r := (371, .aload_n 0, 1)) rfl
theorem dX16_unlocks_372 : decode cX16_unlocks 372 = .ok (.getfield 521, 3) := dk_get daX16_unlocks 199 (r := (372, .getfield 521, 3)) rfl
theorem dX16_unlocks_375 : decode cX16_unlocks 375 = .ok (.ifCond .le 15, 3) := dk_get daX16_unlocks 200 (r := (375, .ifCond .le 15, 3)) rfl
theorem dX16_unlocks_378 : decode cX16_unlocks 378 = .ok (.aload_n 0, 1) := dk_get daX16_unlocks 201 (r := (378, .aload_n 0, 1)) rfl
theorem dX16_unlocks_379 : decode cX16_unlocks 379 = .ok (.iconst 0, 1) := dk_get daX16_unlocks 202 (r := (379, .iconst 0, 1)) rfl
theorem dX16_unlocks_380 : decode cX16_unlocks 380 = .ok (.invokevirtual 585, 3) := dk_get daX16_unlocks 203 (r := (380, .invokevirtual 585, 3)) rfl
theorem dX16_unlocks_383 : decode cX16_unlocks 383 = .ok (.ifCond .eq 7, 3) := dk_get daX16_unlocks 204 (r := (383, .ifCond .eq 7, 3)) rfl
theorem dX16_unlocks_386 : decode cX16_unlocks 386 = .ok (.iconst 1, 1) := dk_get daX16_unlocks 205 (r := (386, .iconst 1, 1)) rfl
theorem dX16_unlocks_387 : decode cX16_unlocks 387 = .ok (.goto 4, 3) := dk_get daX16_unlocks 206 (r := (387, .goto 4, 3)) rfl
theorem dX16_unlocks_390 : decode cX16_unlocks 390 = .ok (.iconst 0, 1) := dk_get daX16_unlocks 207 (r := (390, .iconst 0, 1)) rfl
theorem dX16_unlocks_391 : decode cX16_unlocks 391 = .ok (.ireturn, 1) := dk_get daX16_unlocks 208 (r := (391, .ireturn, 1)) rfl
abbrev mX16_keepStack : ks_M := (RX16, cX16_keepStack, 4, none, "keepStack")
def drX16_keepStack : List (Nat × Instr × Nat) := [(0, .aload_n 0, 1), (1, .aload_n 0, 1), (2, .getfield 521, 3), (5, .putfield 711, 3), (8, .iconst 0, 1), (9, .istore_n 1, 1), (10, .iload_n 1, 1), (11, .aload_n 0, 1), (12, .getfield 521, 3), (15, .if_icmp .ge 59, 3), (18, .aload_n 0, 1), (19, .getfield 714, 3), (22, .iload_n 1, 1), (23, .invokestatic 531, 3), (26, .astore_n 2, 1), (27, .iconst 0, 1), (28, .istore_n 3, 1), (29, .iload_n 3, 1), (30, .aload_n 0, 1), (31, .getfield 535, 3), (34, .iload_n 1, 1), (35, .iaload, 1), (36, .if_icmp .ge 20, 3), (39, .aload_n 2, 1), (40, .iload_n 3, 1), (41, .aload_n 0, 1), (42, .getfield 527, 3), (45, .iload_n 1, 1), (46, .aaload, 1), (47, .iload_n 3, 1), (48, .baload, 1), (49, .bastore, 1), (50, .iinc 3 1, 3), (53, .goto (-24), 3), (56, .aload_n 0, 1), (57, .getfield 717, 3), (60, .iload_n 1, 1), (61, .aload_n 0, 1), (62, .getfield 535, 3), (65, .iload_n 1, 1), (66, .iaload, 1), (67, .iastore, 1), (68, .iinc 1 1, 3), (71, .goto (-61), 3), (74, .return_, 1)]
set_option maxRecDepth 100000 in
theorem daX16_keepStack : dk_all cX16_keepStack drX16_keepStack = true := by decide +kernel
theorem dX16_keepStack_0 : decode cX16_keepStack 0 = .ok (.aload_n 0, 1) := dk_get daX16_keepStack 0 (r := (0, .aload_n 0, 1)) rfl
theorem dX16_keepStack_1 : decode cX16_keepStack 1 = .ok (.aload_n 0, 1) := dk_get daX16_keepStack 1 (r := (1, .aload_n 0, 1)) rfl
theorem dX16_keepStack_2 : decode cX16_keepStack 2 = .ok (.getfield 521, 3) := dk_get daX16_keepStack 2 (r := (2, .getfield 521, 3)) rfl
theorem dX16_keepStack_5 : decode cX16_keepStack 5 = .ok (.putfield 711, 3) := dk_get daX16_keepStack 3 (r := (5, .putfield 711, 3)) rfl
theorem dX16_keepStack_8 : decode cX16_keepStack 8 = .ok (.iconst 0, 1) := dk_get daX16_keepStack 4 (r := (8, .iconst 0, 1)) rfl
theorem dX16_keepStack_9 : decode cX16_keepStack 9 = .ok (.istore_n 1, 1) := dk_get daX16_keepStack 5 (r := (9, .istore_n 1, 1)) rfl
theorem dX16_keepStack_10 : decode cX16_keepStack 10 = .ok (.iload_n 1, 1) := dk_get daX16_keepStack 6 (r := (10, .iload_n 1, 1)) rfl
theorem dX16_keepStack_11 : decode cX16_keepStack 11 = .ok (.aload_n 0, 1) := dk_get daX16_keepStack 7 (r := (11, .aload_n 0, 1)) rfl
theorem dX16_keepStack_12 : decode cX16_keepStack 12 = .ok (.getfield 521, 3) := dk_get daX16_keepStack 8 (r := (12, .getfield 521, 3)) rfl
theorem dX16_keepStack_15 : decode cX16_keepStack 15 = .ok (.if_icmp .ge 59, 3) := dk_get daX16_keepStack 9 (r := (15, .if_icmp .ge 59, 3)) rfl
theorem dX16_keepStack_18 : decode cX16_keepStack 18 = .ok (.aload_n 0, 1) := dk_get daX16_keepStack 10 (r := (18, .aload_n 0, 1)) rfl
theorem dX16_keepStack_19 : decode cX16_keepStack 19 = .ok (.getfield 714, 3) := dk_get daX16_keepStack 11 (r := (19, .getfield 714, 3)) rfl
theorem dX16_keepStack_22 : decode cX16_keepStack 22 = .ok (.iload_n 1, 1) := dk_get daX16_keepStack 12 (r := (22, .iload_n 1, 1)) rfl
theorem dX16_keepStack_23 : decode cX16_keepStack 23 = .ok (.invokestatic 531, 3) := dk_get daX16_keepStack 13 (r := (23, .invokestatic 531, 3)) rfl
theorem dX16_keepStack_26 : decode cX16_keepStack 26 = .ok (.astore_n 2, 1) := dk_get daX16_keepStack 14 (r := (26, .astore_n 2, 1)) rfl
theorem dX16_keepStack_27 : decode cX16_keepStack 27 = .ok (.iconst 0, 1) := dk_get daX16_keepStack 15 (r := (27, .iconst 0, 1)) rfl
theorem dX16_keepStack_28 : decode cX16_keepStack 28 = .ok (.istore_n 3, 1) := dk_get daX16_keepStack 16 (r := (28, .istore_n 3, 1)) rfl
theorem dX16_keepStack_29 : decode cX16_keepStack 29 = .ok (.iload_n 3, 1) := dk_get daX16_keepStack 17 (r := (29, .iload_n 3, 1)) rfl
theorem dX16_keepStack_30 : decode cX16_keepStack 30 = .ok (.aload_n 0, 1) := dk_get daX16_keepStack 18 (r := (30, .aload_n 0, 1)) rfl
theorem dX16_keepStack_31 : decode cX16_keepStack 31 = .ok (.getfield 535, 3) := dk_get daX16_keepStack 19 (r := (31, .getfield 535, 3)) rfl
theorem dX16_keepStack_34 : decode cX16_keepStack 34 = .ok (.iload_n 1, 1) := dk_get daX16_keepStack 20 (r := (34, .iload_n 1, 1)) rfl
theorem dX16_keepStack_35 : decode cX16_keepStack 35 = .ok (.iaload, 1) := dk_get daX16_keepStack 21 (r := (35, .iaload, 1)) rfl
theorem dX16_keepStack_36 : decode cX16_keepStack 36 = .ok (.if_icmp .ge 20, 3) := dk_get daX16_keepStack 22 (r := (36, .if_icmp .ge 20, 3)) rfl
theorem dX16_keepStack_39 : decode cX16_keepStack 39 = .ok (.aload_n 2, 1) := dk_get daX16_keepStack 23 (r := (39, .aload_n 2, 1)) rfl
theorem dX16_keepStack_40 : decode cX16_keepStack 40 = .ok (.iload_n 3, 1) := dk_get daX16_keepStack 24 (r := (40, .iload_n 3, 1)) rfl
theorem dX16_keepStack_41 : decode cX16_keepStack 41 = .ok (.aload_n 0, 1) := dk_get daX16_keepStack 25 (r := (41, .aload_n 0, 1)) rfl
theorem dX16_keepStack_42 : decode cX16_keepStack 42 = .ok (.getfield 527, 3) := dk_get daX16_keepStack 26 (r := (42, .getfield 527, 3)) rfl
theorem dX16_keepStack_45 : decode cX16_keepStack 45 = .ok (.iload_n 1, 1) := dk_get daX16_keepStack 27 (r := (45, .iload_n 1, 1)) rfl
theorem dX16_keepStack_46 : decode cX16_keepStack 46 = .ok (.aaload, 1) := dk_get daX16_keepStack 28 (r := (46, .aaload, 1)) rfl
theorem dX16_keepStack_47 : decode cX16_keepStack 47 = .ok (.iload_n 3, 1) := dk_get daX16_keepStack 29 (r := (47, .iload_n 3, 1)) rfl
theorem dX16_keepStack_48 : decode cX16_keepStack 48 = .ok (.baload, 1) := dk_get daX16_keepStack 30 (r := (48, .baload, 1)) rfl
theorem dX16_keepStack_49 : decode cX16_keepStack 49 = .ok (.bastore, 1) := dk_get daX16_keepStack 31 (r := (49, .bastore, 1)) rfl
theorem dX16_keepStack_50 : decode cX16_keepStack 50 = .ok (.iinc 3 1, 3) := dk_get daX16_keepStack 32 (r := (50, .iinc 3 1, 3)) rfl
theorem dX16_keepStack_53 : decode cX16_keepStack 53 = .ok (.goto (-24), 3) := dk_get daX16_keepStack 33 (r := (53, .goto (-24), 3)) rfl
theorem dX16_keepStack_56 : decode cX16_keepStack 56 = .ok (.aload_n 0, 1) := dk_get daX16_keepStack 34 (r := (56, .aload_n 0, 1)) rfl
theorem dX16_keepStack_57 : decode cX16_keepStack 57 = .ok (.getfield 717, 3) := dk_get daX16_keepStack 35 (r := (57, .getfield 717, 3)) rfl
theorem dX16_keepStack_60 : decode cX16_keepStack 60 = .ok (.iload_n 1, 1) := dk_get daX16_keepStack 36 (r := (60, .iload_n 1, 1)) rfl
theorem dX16_keepStack_61 : decode cX16_keepStack 61 = .ok (.aload_n 0, 1) := dk_get daX16_keepStack 37 (r := (61, .aload_n 0, 1)) rfl
theorem dX16_keepStack_62 : decode cX16_keepStack 62 = .ok (.getfield 535, 3) := dk_get daX16_keepStack 38 (r := (62, .getfield 535, 3)) rfl
theorem dX16_keepStack_65 : decode cX16_keepStack 65 = .ok (.iload_n 1, 1) := dk_get daX16_keepStack 39 (r := (65, .iload_n 1, 1)) rfl
theorem dX16_keepStack_66 : decode cX16_keepStack 66 = .ok (.iaload, 1) := dk_get daX16_keepStack 40 (r := (66, .iaload, 1)) rfl
theorem dX16_keepStack_67 : decode cX16_keepStack 67 = .ok (.iastore, 1) := dk_get daX16_keepStack 41 (r := (67, .iastore, 1)) rfl
theorem dX16_keepStack_68 : decode cX16_keepStack 68 = .ok (.iinc 1 1, 3) := dk_get daX16_keepStack 42 (r := (68, .iinc 1 1, 3)) rfl
theorem dX16_keepStack_71 : decode cX16_keepStack 71 = .ok (.goto (-61), 3) := dk_get daX16_keepStack 43 (r := (71, .goto (-61), 3)) rfl
theorem dX16_keepStack_74 : decode cX16_keepStack 74 = .ok (.return_, 1) := dk_get daX16_keepStack 44 (r := (74, .return_, 1)) rfl
set_option maxRecDepth 100000 in
theorem kx_2150 : (Jvm.Cond.methodLink "CoinJudgeModel" (702 : Nat) ({ cls := "CoinJudgeModel", name := "run", desc := "([BII)Z" } : Jvm.MethodName)) ∈ lw_tbl := List.mem_append_right _ (List.mem_of_getElem? (i := 2150) (by rfl))
set_option maxRecDepth 100000 in
theorem kx_2152 : (Jvm.Cond.instanceMethod ({ cls := "CoinJudgeModel", name := "run", desc := "([BII)Z" } : Jvm.MethodName)) ∈ lw_tbl := List.mem_append_right _ (List.mem_of_getElem? (i := 2152) (by rfl))
set_option maxRecDepth 100000 in
theorem kx_2188 : (Jvm.Cond.methodLink "CoinJudgeModel" (588 : Nat) ({ cls := "CoinJudgeModel", name := "work", desc := "(II)V" } : Jvm.MethodName)) ∈ lw_tbl := List.mem_append_right _ (List.mem_of_getElem? (i := 2188) (by rfl))
set_option maxRecDepth 100000 in
theorem kx_2190 : (Jvm.Cond.instanceMethod ({ cls := "CoinJudgeModel", name := "work", desc := "(II)V" } : Jvm.MethodName)) ∈ lw_tbl := List.mem_append_right _ (List.mem_of_getElem? (i := 2190) (by rfl))
set_option maxRecDepth 100000 in
theorem kx_2191 : (Jvm.Cond.code ({ cls := "CoinJudgeModel", name := "work", desc := "(II)V" } : Jvm.MethodName) prog_14_method_73_code (3 : Nat) (Option.none : Option Jvm.ClassFile.FieldType)) ∈ lw_tbl := List.mem_append_right _ (List.mem_of_getElem? (i := 2191) (by rfl))
set_option maxRecDepth 100000 in
theorem kx_2192 : (Jvm.Cond.methodLink "CoinJudgeModel" (621 : Nat) ({ cls := "CoinJudgeModel", name := "reckon", desc := "(I)V" } : Jvm.MethodName)) ∈ lw_tbl := List.mem_append_right _ (List.mem_of_getElem? (i := 2192) (by rfl))
set_option maxRecDepth 100000 in
theorem kx_2194 : (Jvm.Cond.instanceMethod ({ cls := "CoinJudgeModel", name := "reckon", desc := "(I)V" } : Jvm.MethodName)) ∈ lw_tbl := List.mem_append_right _ (List.mem_of_getElem? (i := 2194) (by rfl))
set_option maxRecDepth 100000 in
theorem kx_2195 : (Jvm.Cond.code ({ cls := "CoinJudgeModel", name := "reckon", desc := "(I)V" } : Jvm.MethodName) prog_14_method_74_code (9 : Nat) (Option.none : Option Jvm.ClassFile.FieldType)) ∈ lw_tbl := List.mem_append_right _ (List.mem_of_getElem? (i := 2195) (by rfl))
set_option maxRecDepth 100000 in
theorem kx_2196 : (Jvm.Cond.methodLink "CoinJudgeModel" (617 : Nat) ({ cls := "CoinJudgeModel", name := "numberAt", desc := "(II)J" } : Jvm.MethodName)) ∈ lw_tbl := List.mem_append_right _ (List.mem_of_getElem? (i := 2196) (by rfl))
set_option maxRecDepth 100000 in
theorem kx_2198 : (Jvm.Cond.instanceMethod ({ cls := "CoinJudgeModel", name := "numberAt", desc := "(II)J" } : Jvm.MethodName)) ∈ lw_tbl := List.mem_append_right _ (List.mem_of_getElem? (i := 2198) (by rfl))
set_option maxRecDepth 100000 in
theorem kx_2204 : (Jvm.Cond.methodLink "CoinJudgeModel" (595 : Nat) ({ cls := "CoinJudgeModel", name := "answer", desc := "(ZZ)V" } : Jvm.MethodName)) ∈ lw_tbl := List.mem_append_right _ (List.mem_of_getElem? (i := 2204) (by rfl))
set_option maxRecDepth 100000 in
theorem kx_2206 : (Jvm.Cond.instanceMethod ({ cls := "CoinJudgeModel", name := "answer", desc := "(ZZ)V" } : Jvm.MethodName)) ∈ lw_tbl := List.mem_append_right _ (List.mem_of_getElem? (i := 2206) (by rfl))
set_option maxRecDepth 100000 in
theorem kx_2208 : (Jvm.Cond.methodLink "CoinJudgeModel" (624 : Nat) ({ cls := "CoinJudgeModel", name := "digested", desc := "(I)V" } : Jvm.MethodName)) ∈ lw_tbl := List.mem_append_right _ (List.mem_of_getElem? (i := 2208) (by rfl))
set_option maxRecDepth 100000 in
theorem kx_2210 : (Jvm.Cond.instanceMethod ({ cls := "CoinJudgeModel", name := "digested", desc := "(I)V" } : Jvm.MethodName)) ∈ lw_tbl := List.mem_append_right _ (List.mem_of_getElem? (i := 2210) (by rfl))
set_option maxRecDepth 100000 in
theorem kx_2211 : (Jvm.Cond.code ({ cls := "CoinJudgeModel", name := "digested", desc := "(I)V" } : Jvm.MethodName) prog_14_method_75_code (4 : Nat) (Option.none : Option Jvm.ClassFile.FieldType)) ∈ lw_tbl := List.mem_append_right _ (List.mem_of_getElem? (i := 2211) (by rfl))
set_option maxRecDepth 100000 in
theorem kx_2229 : (Jvm.Cond.methodLink "CoinJudgeModel" (639 : Nat) ({ cls := "CoinJudgeModel", name := "hash160", desc := "([BII[BI)V" } : Jvm.MethodName)) ∈ lw_tbl := List.mem_append_right _ (List.mem_of_getElem? (i := 2229) (by rfl))
set_option maxRecDepth 100000 in
theorem kx_2231 : (Jvm.Cond.instanceMethod ({ cls := "CoinJudgeModel", name := "hash160", desc := "([BII[BI)V" } : Jvm.MethodName)) ∈ lw_tbl := List.mem_append_right _ (List.mem_of_getElem? (i := 2231) (by rfl))
set_option maxRecDepth 100000 in
theorem kx_2233 : (Jvm.Cond.methodLink "CoinJudgeModel" (627 : Nat) ({ cls := "CoinJudgeModel", name := "asked", desc := "(I)V" } : Jvm.MethodName)) ∈ lw_tbl := List.mem_append_right _ (List.mem_of_getElem? (i := 2233) (by rfl))
set_option maxRecDepth 100000 in
theorem kx_2235 : (Jvm.Cond.instanceMethod ({ cls := "CoinJudgeModel", name := "asked", desc := "(I)V" } : Jvm.MethodName)) ∈ lw_tbl := List.mem_append_right _ (List.mem_of_getElem? (i := 2235) (by rfl))
set_option maxRecDepth 100000 in
theorem kx_2236 : (Jvm.Cond.code ({ cls := "CoinJudgeModel", name := "asked", desc := "(I)V" } : Jvm.MethodName) prog_14_method_84_code (7 : Nat) (Option.none : Option Jvm.ClassFile.FieldType)) ∈ lw_tbl := List.mem_append_right _ (List.mem_of_getElem? (i := 2236) (by rfl))
set_option maxRecDepth 100000 in
theorem kx_2237 : (Jvm.Cond.methodLink "CoinJudgeModel" (690 : Nat) ({ cls := "CoinJudgeModel", name := "load", desc := "([BII)V" } : Jvm.MethodName)) ∈ lw_tbl := List.mem_append_right _ (List.mem_of_getElem? (i := 2237) (by rfl))
set_option maxRecDepth 100000 in
theorem kx_2239 : (Jvm.Cond.instanceMethod ({ cls := "CoinJudgeModel", name := "load", desc := "([BII)V" } : Jvm.MethodName)) ∈ lw_tbl := List.mem_append_right _ (List.mem_of_getElem? (i := 2239) (by rfl))
set_option maxRecDepth 100000 in
theorem kx_2240 : (Jvm.Cond.code ({ cls := "CoinJudgeModel", name := "load", desc := "([BII)V" } : Jvm.MethodName) prog_14_method_77_code (5 : Nat) (Option.none : Option Jvm.ClassFile.FieldType)) ∈ lw_tbl := List.mem_append_right _ (List.mem_of_getElem? (i := 2240) (by rfl))
set_option maxRecDepth 100000 in
theorem kx_2241 : (Jvm.Cond.methodLink "CoinJudgeModel" (693 : Nat) ({ cls := "CoinJudgeModel", name := "without", desc := "([BI)V" } : Jvm.MethodName)) ∈ lw_tbl := List.mem_append_right _ (List.mem_of_getElem? (i := 2241) (by rfl))
set_option maxRecDepth 100000 in
theorem kx_2243 : (Jvm.Cond.instanceMethod ({ cls := "CoinJudgeModel", name := "without", desc := "([BI)V" } : Jvm.MethodName)) ∈ lw_tbl := List.mem_append_right _ (List.mem_of_getElem? (i := 2243) (by rfl))
set_option maxRecDepth 100000 in
theorem kx_2244 : (Jvm.Cond.code ({ cls := "CoinJudgeModel", name := "without", desc := "([BI)V" } : Jvm.MethodName) prog_14_method_76_code (8 : Nat) (Option.none : Option Jvm.ClassFile.FieldType)) ∈ lw_tbl := List.mem_append_right _ (List.mem_of_getElem? (i := 2244) (by rfl))
set_option maxRecDepth 100000 in
theorem kx_2245 : (Jvm.Cond.methodLink "CoinJudgeModel" (696 : Nat) ({ cls := "CoinJudgeModel", name := "isGood", desc := "([BI[BI)Z" } : Jvm.MethodName)) ∈ lw_tbl := List.mem_append_right _ (List.mem_of_getElem? (i := 2245) (by rfl))
set_option maxRecDepth 100000 in
theorem kx_2247 : (Jvm.Cond.instanceMethod ({ cls := "CoinJudgeModel", name := "isGood", desc := "([BI[BI)Z" } : Jvm.MethodName)) ∈ lw_tbl := List.mem_append_right _ (List.mem_of_getElem? (i := 2247) (by rfl))
set_option maxRecDepth 100000 in
theorem kx_2248 : (Jvm.Cond.code ({ cls := "CoinJudgeModel", name := "isGood", desc := "([BI[BI)Z" } : Jvm.MethodName) prog_14_method_83_code (5 : Nat) (Option.some Jvm.ClassFile.FieldType.boolean)) ∈ lw_tbl := List.mem_append_right _ (List.mem_of_getElem? (i := 2248) (by rfl))
set_option maxRecDepth 100000 in
theorem kx_2249 : (Jvm.Cond.methodLink "CoinJudgeModel" (670 : Nat) ({ cls := "CoinJudgeModel", name := "isDer", desc := "([BI)Z" } : Jvm.MethodName)) ∈ lw_tbl := List.mem_append_right _ (List.mem_of_getElem? (i := 2249) (by rfl))
set_option maxRecDepth 100000 in
theorem kx_2251 : (Jvm.Cond.instanceMethod ({ cls := "CoinJudgeModel", name := "isDer", desc := "([BI)Z" } : Jvm.MethodName)) ∈ lw_tbl := List.mem_append_right _ (List.mem_of_getElem? (i := 2251) (by rfl))
set_option maxRecDepth 100000 in
theorem kx_2256 : (Jvm.Cond.methodLink "CoinJudgeModel" (682 : Nat) ({ cls := "CoinJudgeModel", name := "hashed", desc := "(LCoinJudgeModel$Parsed;III)V" } : Jvm.MethodName)) ∈ lw_tbl := List.mem_append_right _ (List.mem_of_getElem? (i := 2256) (by rfl))
set_option maxRecDepth 100000 in
theorem kx_2258 : (Jvm.Cond.instanceMethod ({ cls := "CoinJudgeModel", name := "hashed", desc := "(LCoinJudgeModel$Parsed;III)V" } : Jvm.MethodName)) ∈ lw_tbl := List.mem_append_right _ (List.mem_of_getElem? (i := 2258) (by rfl))
set_option maxRecDepth 100000 in
theorem kx_2259 : (Jvm.Cond.code ({ cls := "CoinJudgeModel", name := "hashed", desc := "(LCoinJudgeModel$Parsed;III)V" } : Jvm.MethodName) prog_14_method_82_code (11 : Nat) (Option.none : Option Jvm.ClassFile.FieldType)) ∈ lw_tbl := List.mem_append_right _ (List.mem_of_getElem? (i := 2259) (by rfl))
set_option maxRecDepth 100000 in
theorem kx_2260 : (Jvm.Cond.methodLink "CoinJudgeModel" (660 : Nat) ({ cls := "CoinJudgeModel", name := "unmarked", desc := "()V" } : Jvm.MethodName)) ∈ lw_tbl := List.mem_append_right _ (List.mem_of_getElem? (i := 2260) (by rfl))
set_option maxRecDepth 100000 in
theorem kx_2262 : (Jvm.Cond.instanceMethod ({ cls := "CoinJudgeModel", name := "unmarked", desc := "()V" } : Jvm.MethodName)) ∈ lw_tbl := List.mem_append_right _ (List.mem_of_getElem? (i := 2262) (by rfl))
set_option maxRecDepth 100000 in
theorem kx_2263 : (Jvm.Cond.code ({ cls := "CoinJudgeModel", name := "unmarked", desc := "()V" } : Jvm.MethodName) prog_14_method_78_code (5 : Nat) (Option.none : Option Jvm.ClassFile.FieldType)) ∈ lw_tbl := List.mem_append_right _ (List.mem_of_getElem? (i := 2263) (by rfl))
set_option maxRecDepth 100000 in
theorem kx_2264 : (Jvm.Cond.methodLink "CoinJudgeModel" (663 : Nat) ({ cls := "CoinJudgeModel", name := "lay", desc := "([BII)V" } : Jvm.MethodName)) ∈ lw_tbl := List.mem_append_right _ (List.mem_of_getElem? (i := 2264) (by rfl))
set_option maxRecDepth 100000 in
theorem kx_2266 : (Jvm.Cond.instanceMethod ({ cls := "CoinJudgeModel", name := "lay", desc := "([BII)V" } : Jvm.MethodName)) ∈ lw_tbl := List.mem_append_right _ (List.mem_of_getElem? (i := 2266) (by rfl))
set_option maxRecDepth 100000 in
theorem kx_2267 : (Jvm.Cond.code ({ cls := "CoinJudgeModel", name := "lay", desc := "([BII)V" } : Jvm.MethodName) prog_14_method_80_code (5 : Nat) (Option.none : Option Jvm.ClassFile.FieldType)) ∈ lw_tbl := List.mem_append_right _ (List.mem_of_getElem? (i := 2267) (by rfl))
set_option maxRecDepth 100000 in
theorem kx_2268 : (Jvm.Cond.methodLink "CoinJudgeModel" (665 : Nat) ({ cls := "CoinJudgeModel", name := "layCount", desc := "(J)V" } : Jvm.MethodName)) ∈ lw_tbl := List.mem_append_right _ (List.mem_of_getElem? (i := 2268) (by rfl))
set_option maxRecDepth 100000 in
theorem kx_2270 : (Jvm.Cond.instanceMethod ({ cls := "CoinJudgeModel", name := "layCount", desc := "(J)V" } : Jvm.MethodName)) ∈ lw_tbl := List.mem_append_right _ (List.mem_of_getElem? (i := 2270) (by rfl))
set_option maxRecDepth 100000 in
theorem kx_2271 : (Jvm.Cond.code ({ cls := "CoinJudgeModel", name := "layCount", desc := "(J)V" } : Jvm.MethodName) prog_14_method_81_code (3 : Nat) (Option.none : Option Jvm.ClassFile.FieldType)) ∈ lw_tbl := List.mem_append_right _ (List.mem_of_getElem? (i := 2271) (by rfl))
set_option maxRecDepth 100000 in
theorem kx_2272 : (Jvm.Cond.methodLink "CoinJudgeModel" (656 : Nat) ({ cls := "CoinJudgeModel", name := "lay", desc := "(JI)V" } : Jvm.MethodName)) ∈ lw_tbl := List.mem_append_right _ (List.mem_of_getElem? (i := 2272) (by rfl))
set_option maxRecDepth 100000 in
theorem kx_2274 : (Jvm.Cond.instanceMethod ({ cls := "CoinJudgeModel", name := "lay", desc := "(JI)V" } : Jvm.MethodName)) ∈ lw_tbl := List.mem_append_right _ (List.mem_of_getElem? (i := 2274) (by rfl))
set_option maxRecDepth 100000 in
theorem kx_2275 : (Jvm.Cond.code ({ cls := "CoinJudgeModel", name := "lay", desc := "(JI)V" } : Jvm.MethodName) prog_14_method_79_code (5 : Nat) (Option.none : Option Jvm.ClassFile.FieldType)) ∈ lw_tbl := List.mem_append_right _ (List.mem_of_getElem? (i := 2275) (by rfl))
set_option maxRecDepth 100000 in
theorem kx_2276 : (Jvm.Cond.constantLong "CoinJudgeModel" (668 : Nat) (-1 : Int64)) ∈ lw_tbl := List.mem_append_right _ (List.mem_of_getElem? (i := 2276) (by rfl))
set_option maxRecDepth 100000 in
theorem kx_2277 : (Jvm.Cond.methodLink "CoinJudgeModel" (686 : Nat) ({ cls := "CoinJudgeModel", name := "isRight", desc := "([B[BI)Z" } : Jvm.MethodName)) ∈ lw_tbl := List.mem_append_right _ (List.mem_of_getElem? (i := 2277) (by rfl))
set_option maxRecDepth 100000 in
theorem kx_2279 : (Jvm.Cond.instanceMethod ({ cls := "CoinJudgeModel", name := "isRight", desc := "([B[BI)Z" } : Jvm.MethodName)) ∈ lw_tbl := List.mem_append_right _ (List.mem_of_getElem? (i := 2279) (by rfl))
set_option maxRecDepth 100000 in
theorem kx_2330 : (Jvm.Cond.methodLink "CoinJudgeModel" (630 : Nat) ({ cls := "CoinJudgeModel", name := "several", desc := "(I)V" } : Jvm.MethodName)) ∈ lw_tbl := List.mem_append_right _ (List.mem_of_getElem? (i := 2330) (by rfl))
set_option maxRecDepth 100000 in
theorem kx_2332 : (Jvm.Cond.instanceMethod ({ cls := "CoinJudgeModel", name := "several", desc := "(I)V" } : Jvm.MethodName)) ∈ lw_tbl := List.mem_append_right _ (List.mem_of_getElem? (i := 2332) (by rfl))
set_option maxRecDepth 100000 in
theorem kx_2333 : (Jvm.Cond.code ({ cls := "CoinJudgeModel", name := "several", desc := "(I)V" } : Jvm.MethodName) prog_14_method_85_code (14 : Nat) (Option.none : Option Jvm.ClassFile.FieldType)) ∈ lw_tbl := List.mem_append_right _ (List.mem_of_getElem? (i := 2333) (by rfl))
set_option maxRecDepth 100000 in
theorem kx_2334 : (Jvm.Cond.constantLong "CoinJudgeModel" (700 : Nat) (20 : Int64)) ∈ lw_tbl := List.mem_append_right _ (List.mem_of_getElem? (i := 2334) (by rfl))
set_option maxRecDepth 100000 in
theorem kx_2335 : (Jvm.Cond.methodLink "CoinJudgeModel" (633 : Nat) ({ cls := "CoinJudgeModel", name := "locked", desc := "()V" } : Jvm.MethodName)) ∈ lw_tbl := List.mem_append_right _ (List.mem_of_getElem? (i := 2335) (by rfl))
set_option maxRecDepth 100000 in
theorem kx_2337 : (Jvm.Cond.instanceMethod ({ cls := "CoinJudgeModel", name := "locked", desc := "()V" } : Jvm.MethodName)) ∈ lw_tbl := List.mem_append_right _ (List.mem_of_getElem? (i := 2337) (by rfl))
set_option maxRecDepth 100000 in
theorem kx_2338 : (Jvm.Cond.code ({ cls := "CoinJudgeModel", name := "locked", desc := "()V" } : Jvm.MethodName) prog_14_method_86_code (6 : Nat) (Option.none : Option Jvm.ClassFile.FieldType)) ∈ lw_tbl := List.mem_append_right _ (List.mem_of_getElem? (i := 2338) (by rfl))
set_option maxRecDepth 100000 in
theorem kx_2340 : (Jvm.Cond.methodLink "CoinJudgeModel" (591 : Nat) ({ cls := "CoinJudgeModel", name := "move", desc := "(I)V" } : Jvm.MethodName)) ∈ lw_tbl := List.mem_append_right _ (List.mem_of_getElem? (i := 2340) (by rfl))
set_option maxRecDepth 100000 in
theorem kx_2342 : (Jvm.Cond.instanceMethod ({ cls := "CoinJudgeModel", name := "move", desc := "(I)V" } : Jvm.MethodName)) ∈ lw_tbl := List.mem_append_right _ (List.mem_of_getElem? (i := 2342) (by rfl))
set_option maxRecDepth 100000 in
theorem kx_2343 : (Jvm.Cond.code ({ cls := "CoinJudgeModel", name := "move", desc := "(I)V" } : Jvm.MethodName) prog_14_method_72_code (8 : Nat) (Option.none : Option Jvm.ClassFile.FieldType)) ∈ lw_tbl := List.mem_append_right _ (List.mem_of_getElem? (i := 2343) (by rfl))
set_option maxRecDepth 100000 in
theorem kx_2344 : (Jvm.Cond.methodLink "CoinJudgeModel" (612 : Nat) ({ cls := "CoinJudgeModel", name := "copy", desc := "(I)V" } : Jvm.MethodName)) ∈ lw_tbl := List.mem_append_right _ (List.mem_of_getElem? (i := 2344) (by rfl))
set_option maxRecDepth 100000 in
theorem kx_2346 : (Jvm.Cond.instanceMethod ({ cls := "CoinJudgeModel", name := "copy", desc := "(I)V" } : Jvm.MethodName)) ∈ lw_tbl := List.mem_append_right _ (List.mem_of_getElem? (i := 2346) (by rfl))
set_option maxRecDepth 100000 in
theorem kx_2348 : (Jvm.Cond.methodLink "CoinJudgeModel" (614 : Nat) ({ cls := "CoinJudgeModel", name := "lift", desc := "(I)V" } : Jvm.MethodName)) ∈ lw_tbl := List.mem_append_right _ (List.mem_of_getElem? (i := 2348) (by rfl))
set_option maxRecDepth 100000 in
theorem kx_2350 : (Jvm.Cond.instanceMethod ({ cls := "CoinJudgeModel", name := "lift", desc := "(I)V" } : Jvm.MethodName)) ∈ lw_tbl := List.mem_append_right _ (List.mem_of_getElem? (i := 2350) (by rfl))
set_option maxRecDepth 100000 in
theorem kx_2352 : (Jvm.Cond.methodLink "CoinJudgeModel" (705 : Nat) ({ cls := "CoinJudgeModel", name := "keepStack", desc := "()V" } : Jvm.MethodName)) ∈ lw_tbl := List.mem_append_right _ (List.mem_of_getElem? (i := 2352) (by rfl))
set_option maxRecDepth 100000 in
theorem kx_2354 : (Jvm.Cond.instanceMethod ({ cls := "CoinJudgeModel", name := "keepStack", desc := "()V" } : Jvm.MethodName)) ∈ lw_tbl := List.mem_append_right _ (List.mem_of_getElem? (i := 2354) (by rfl))
set_option maxRecDepth 100000 in
theorem kx_2355 : (Jvm.Cond.code ({ cls := "CoinJudgeModel", name := "keepStack", desc := "()V" } : Jvm.MethodName) prog_14_method_89_code (4 : Nat) (Option.none : Option Jvm.ClassFile.FieldType)) ∈ lw_tbl := List.mem_append_right _ (List.mem_of_getElem? (i := 2355) (by rfl))
set_option maxRecDepth 100000 in
theorem kx_2356 : (Jvm.Cond.methodLink "CoinJudgeModel" (708 : Nat) ({ cls := "CoinJudgeModel", name := "isPushes", desc := "([BII)Z" } : Jvm.MethodName)) ∈ lw_tbl := List.mem_append_right _ (List.mem_of_getElem? (i := 2356) (by rfl))
set_option maxRecDepth 100000 in
theorem kx_2358 : (Jvm.Cond.instanceMethod ({ cls := "CoinJudgeModel", name := "isPushes", desc := "([BII)Z" } : Jvm.MethodName)) ∈ lw_tbl := List.mem_append_right _ (List.mem_of_getElem? (i := 2358) (by rfl))
set_option maxRecDepth 100000 in
theorem kx_2359 : (Jvm.Cond.code ({ cls := "CoinJudgeModel", name := "isPushes", desc := "([BII)Z" } : Jvm.MethodName) prog_14_method_87_code (5 : Nat) (Option.some Jvm.ClassFile.FieldType.boolean)) ∈ lw_tbl := List.mem_append_right _ (List.mem_of_getElem? (i := 2359) (by rfl))
set_option maxRecDepth 100000 in
theorem kx_2436 : (Jvm.Cond.fieldLink "CoinJudgeModel" (606 : Nat) "CoinJudgeModel" "others" "[[B") ∈ lw_tbl := List.mem_append_right _ (List.mem_of_getElem? (i := 2436) (by rfl))
set_option maxRecDepth 100000 in
theorem kx_2437 : (Jvm.Cond.fieldLink "CoinJudgeModel" (609 : Nat) "CoinJudgeModel" "otherSizes" "[I") ∈ lw_tbl := List.mem_append_right _ (List.mem_of_getElem? (i := 2437) (by rfl))
set_option maxRecDepth 100000 in
theorem kx_2439 : (Jvm.Cond.fieldLink "CoinJudgeModel" (714 : Nat) "CoinJudgeModel" "saved" "[[B") ∈ lw_tbl := List.mem_append_right _ (List.mem_of_getElem? (i := 2439) (by rfl))
set_option maxRecDepth 100000 in
theorem kx_2440 : (Jvm.Cond.fieldLink "CoinJudgeModel" (717 : Nat) "CoinJudgeModel" "savedSizes" "[I") ∈ lw_tbl := List.mem_append_right _ (List.mem_of_getElem? (i := 2440) (by rfl))
set_option maxRecDepth 100000 in
theorem kx_2441 : (Jvm.Cond.fieldLink "CoinJudgeModel" (711 : Nat) "CoinJudgeModel" "savedTop" "I") ∈ lw_tbl := List.mem_append_right _ (List.mem_of_getElem? (i := 2441) (by rfl))
set_option maxRecDepth 100000 in
theorem kx_2444 : (Jvm.Cond.fieldLink "CoinJudgeModel" (673 : Nat) "CoinJudgeModel" "inBlock" "LCoinJudgeModel$Parsed;") ∈ lw_tbl := List.mem_append_right _ (List.mem_of_getElem? (i := 2444) (by rfl))
set_option maxRecDepth 100000 in
theorem kx_2445 : (Jvm.Cond.fieldLink "CoinJudgeModel" (676 : Nat) "CoinJudgeModel" "inTx" "I") ∈ lw_tbl := List.mem_append_right _ (List.mem_of_getElem? (i := 2445) (by rfl))
set_option maxRecDepth 100000 in
theorem kx_2446 : (Jvm.Cond.fieldLink "CoinJudgeModel" (679 : Nat) "CoinJudgeModel" "inInput" "I") ∈ lw_tbl := List.mem_append_right _ (List.mem_of_getElem? (i := 2446) (by rfl))
set_option maxRecDepth 100000 in
theorem kx_2453 : (Jvm.Cond.fieldLink "CoinJudgeModel" (603 : Nat) "CoinJudgeModel" "needed" "[I") ∈ lw_tbl := List.mem_append_right _ (List.mem_of_getElem? (i := 2453) (by rfl))
set_option maxRecDepth 100000 in
theorem kx_2454 : (Jvm.Cond.fieldLink "CoinJudgeModel" (636 : Nat) "CoinJudgeModel" "digest" "[B") ∈ lw_tbl := List.mem_append_right _ (List.mem_of_getElem? (i := 2454) (by rfl))
set_option maxRecDepth 100000 in
theorem kx_2455 : (Jvm.Cond.fieldLink "CoinJudgeModel" (645 : Nat) "CoinJudgeModel" "cut" "[B") ∈ lw_tbl := List.mem_append_right _ (List.mem_of_getElem? (i := 2455) (by rfl))
set_option maxRecDepth 100000 in
theorem kx_2456 : (Jvm.Cond.fieldLink "CoinJudgeModel" (648 : Nat) "CoinJudgeModel" "less" "[B") ∈ lw_tbl := List.mem_append_right _ (List.mem_of_getElem? (i := 2456) (by rfl))
set_option maxRecDepth 100000 in
theorem kx_2457 : (Jvm.Cond.fieldLink "CoinJudgeModel" (642 : Nat) "CoinJudgeModel" "cutLength" "I") ∈ lw_tbl := List.mem_append_right _ (List.mem_of_getElem? (i := 2457) (by rfl))
set_option maxRecDepth 100000 in
theorem kx_2458 : (Jvm.Cond.fieldLink "CoinJudgeModel" (650 : Nat) "CoinJudgeModel" "signed" "[B") ∈ lw_tbl := List.mem_append_right _ (List.mem_of_getElem? (i := 2458) (by rfl))
set_option maxRecDepth 100000 in
theorem kx_2459 : (Jvm.Cond.fieldLink "CoinJudgeModel" (653 : Nat) "CoinJudgeModel" "signedLength" "I") ∈ lw_tbl := List.mem_append_right _ (List.mem_of_getElem? (i := 2459) (by rfl))
theorem kxp_83 : Cond.selects "CoinJudgeModel" ({ cls := "CoinJudgeModel", name := "unlocks", desc := "(LCoinJudgeModel$Parsed;II)Z" } : MethodName) ({ cls := "CoinJudgeModel", name := "unlocks", desc := "(LCoinJudgeModel$Parsed;II)Z" } : MethodName) ∈ lw_tbl := List.mem_append_left _ (List.mem_of_getElem? (i := 83) (by decide +kernel))
theorem kxp_89 : Cond.selects "CoinJudgeModel" ({ cls := "CoinJudgeModel", name := "act", desc := "(I[BI)V" } : MethodName) ({ cls := "CoinJudgeModel", name := "act", desc := "(I[BI)V" } : MethodName) ∈ lw_tbl := List.mem_append_left _ (List.mem_of_getElem? (i := 89) (by decide +kernel))
theorem kxp_92 : Cond.selects "CoinJudgeModel" ({ cls := "CoinJudgeModel", name := "work", desc := "(II)V" } : MethodName) ({ cls := "CoinJudgeModel", name := "work", desc := "(II)V" } : MethodName) ∈ lw_tbl := List.mem_append_left _ (List.mem_of_getElem? (i := 92) (by decide +kernel))
theorem kxp_93 : Cond.selects "CoinJudgeModel" ({ cls := "CoinJudgeModel", name := "reckon", desc := "(I)V" } : MethodName) ({ cls := "CoinJudgeModel", name := "reckon", desc := "(I)V" } : MethodName) ∈ lw_tbl := List.mem_append_left _ (List.mem_of_getElem? (i := 93) (by decide +kernel))
theorem kxp_97 : Cond.selects "CoinJudgeModel" ({ cls := "CoinJudgeModel", name := "digested", desc := "(I)V" } : MethodName) ({ cls := "CoinJudgeModel", name := "digested", desc := "(I)V" } : MethodName) ∈ lw_tbl := List.mem_append_left _ (List.mem_of_getElem? (i := 97) (by decide +kernel))
theorem kxp_102 : Cond.selects "CoinJudgeModel" ({ cls := "CoinJudgeModel", name := "asked", desc := "(I)V" } : MethodName) ({ cls := "CoinJudgeModel", name := "asked", desc := "(I)V" } : MethodName) ∈ lw_tbl := List.mem_append_left _ (List.mem_of_getElem? (i := 102) (by decide +kernel))
theorem kxp_103 : Cond.selects "CoinJudgeModel" ({ cls := "CoinJudgeModel", name := "load", desc := "([BII)V" } : MethodName) ({ cls := "CoinJudgeModel", name := "load", desc := "([BII)V" } : MethodName) ∈ lw_tbl := List.mem_append_left _ (List.mem_of_getElem? (i := 103) (by decide +kernel))
theorem kxp_104 : Cond.selects "CoinJudgeModel" ({ cls := "CoinJudgeModel", name := "without", desc := "([BI)V" } : MethodName) ({ cls := "CoinJudgeModel", name := "without", desc := "([BI)V" } : MethodName) ∈ lw_tbl := List.mem_append_left _ (List.mem_of_getElem? (i := 104) (by decide +kernel))
theorem kxp_105 : Cond.selects "CoinJudgeModel" ({ cls := "CoinJudgeModel", name := "isGood", desc := "([BI[BI)Z" } : MethodName) ({ cls := "CoinJudgeModel", name := "isGood", desc := "([BI[BI)Z" } : MethodName) ∈ lw_tbl := List.mem_append_left _ (List.mem_of_getElem? (i := 105) (by decide +kernel))
theorem kxp_107 : Cond.selects "CoinJudgeModel" ({ cls := "CoinJudgeModel", name := "hashed", desc := "(LCoinJudgeModel$Parsed;III)V" } : MethodName) ({ cls := "CoinJudgeModel", name := "hashed", desc := "(LCoinJudgeModel$Parsed;III)V" } : MethodName) ∈ lw_tbl := List.mem_append_left _ (List.mem_of_getElem? (i := 107) (by decide +kernel))
theorem kxp_108 : Cond.selects "CoinJudgeModel" ({ cls := "CoinJudgeModel", name := "unmarked", desc := "()V" } : MethodName) ({ cls := "CoinJudgeModel", name := "unmarked", desc := "()V" } : MethodName) ∈ lw_tbl := List.mem_append_left _ (List.mem_of_getElem? (i := 108) (by decide +kernel))
theorem kxp_109 : Cond.selects "CoinJudgeModel" ({ cls := "CoinJudgeModel", name := "lay", desc := "([BII)V" } : MethodName) ({ cls := "CoinJudgeModel", name := "lay", desc := "([BII)V" } : MethodName) ∈ lw_tbl := List.mem_append_left _ (List.mem_of_getElem? (i := 109) (by decide +kernel))
theorem kxp_110 : Cond.selects "CoinJudgeModel" ({ cls := "CoinJudgeModel", name := "layCount", desc := "(J)V" } : MethodName) ({ cls := "CoinJudgeModel", name := "layCount", desc := "(J)V" } : MethodName) ∈ lw_tbl := List.mem_append_left _ (List.mem_of_getElem? (i := 110) (by decide +kernel))
theorem kxp_111 : Cond.selects "CoinJudgeModel" ({ cls := "CoinJudgeModel", name := "lay", desc := "(JI)V" } : MethodName) ({ cls := "CoinJudgeModel", name := "lay", desc := "(JI)V" } : MethodName) ∈ lw_tbl := List.mem_append_left _ (List.mem_of_getElem? (i := 111) (by decide +kernel))
theorem kxp_119 : Cond.selects "CoinJudgeModel" ({ cls := "CoinJudgeModel", name := "several", desc := "(I)V" } : MethodName) ({ cls := "CoinJudgeModel", name := "several", desc := "(I)V" } : MethodName) ∈ lw_tbl := List.mem_append_left _ (List.mem_of_getElem? (i := 119) (by decide +kernel))
theorem kxp_120 : Cond.selects "CoinJudgeModel" ({ cls := "CoinJudgeModel", name := "locked", desc := "()V" } : MethodName) ({ cls := "CoinJudgeModel", name := "locked", desc := "()V" } : MethodName) ∈ lw_tbl := List.mem_append_left _ (List.mem_of_getElem? (i := 120) (by decide +kernel))
theorem kxp_121 : Cond.selects "CoinJudgeModel" ({ cls := "CoinJudgeModel", name := "move", desc := "(I)V" } : MethodName) ({ cls := "CoinJudgeModel", name := "move", desc := "(I)V" } : MethodName) ∈ lw_tbl := List.mem_append_left _ (List.mem_of_getElem? (i := 121) (by decide +kernel))
theorem kxp_124 : Cond.selects "CoinJudgeModel" ({ cls := "CoinJudgeModel", name := "keepStack", desc := "()V" } : MethodName) ({ cls := "CoinJudgeModel", name := "keepStack", desc := "()V" } : MethodName) ∈ lw_tbl := List.mem_append_left _ (List.mem_of_getElem? (i := 124) (by decide +kernel))
theorem kxp_125 : Cond.selects "CoinJudgeModel" ({ cls := "CoinJudgeModel", name := "isPushes", desc := "([BII)Z" } : MethodName) ({ cls := "CoinJudgeModel", name := "isPushes", desc := "([BII)Z" } : MethodName) ∈ lw_tbl := List.mem_append_left _ (List.mem_of_getElem? (i := 125) (by decide +kernel))

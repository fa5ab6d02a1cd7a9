/-! WORDS OF THE REFERENCE -/
def dk_all (c : ByteArray) (L : List (Nat × Instr × Nat)) : Bool := L.all (fun r => decide (decode c r.1 = .ok r.2))
theorem dk_get {c : ByteArray} {L : List (Nat × Instr × Nat)} (h : dk_all c L = true) (i : Nat) {r : Nat × Instr × Nat} (hr : L[i]? = some r) : decode c r.1 = .ok r.2 := of_decide_eq_true (List.all_eq_true.mp h r (List.mem_of_getElem? hr))
theorem cl_X15 : vwCl[18]? = some (RX15, TX15, 8) := rfl
set_option maxRecDepth 100000 in
theorem in_X15 : ∀ w ∈ u_ws RX15 TX15 8, w ∈ lw_tbl ∧ goodWord w = true := by decide +kernel
abbrev mX15_init : ks_M := (RX15, cX15_init, 4, none, "<init>")
def drX15_init : List (Nat × Instr × Nat) := [(0, .aload_n 0, 1), (1, .invokespecial 3, 3), (4, .aload_n 0, 1), (5, .bipush 8, 2), (7, .newarray .int, 2), (9, .putfield 9, 3), (12, .aload_n 0, 1), (13, .bipush 8, 2), (15, .newarray .int, 2), (17, .putfield 15, 3), (20, .aload_n 0, 1), (21, .bipush 8, 2), (23, .newarray .int, 2), (25, .putfield 18, 3), (28, .aload_n 0, 1), (29, .bipush 8, 2), (31, .newarray .int, 2), (33, .putfield 21, 3), (36, .aload_n 0, 1), (37, .bipush 10, 2), (39, .newarray .int, 2), (41, .putfield 24, 3), (44, .aload_n 0, 1), (45, .bipush 8, 2), (47, .newarray .int, 2), (49, .putfield 27, 3), (52, .aload_n 0, 1), (53, .bipush 8, 2), (55, .newarray .int, 2), (57, .putfield 30, 3), (60, .iconst 0, 1), (61, .istore_n 2, 1), (62, .iload_n 2, 1), (63, .bipush 8, 2), (65, .if_icmp .ge 18, 3), (68, .aload_n 0, 1), (69, .getfield 9, 3), (72, .iload_n 2, 1), (73, .aload_n 1, 1), (74, .iload_n 2, 1), (75, .iaload, 1), (76, .iastore, 1), (77, .iinc 2 1, 3), (80, .goto (-18), 3), (83, .iconst 1, 1), (84, .istore_n 2, 1), (85, .iconst 0, 1), (86, .istore_n 3, 1), (87, .iload_n 3, 1), (88, .iconst 5, 1), (89, .if_icmp .ge 19, 3), (92, .iload_n 2, 1), (93, .iconst 2, 1), (94, .aload_n 1, 1), (95, .iconst 0, 1), (96, .iaload, 1), (97, .iload_n 2, 1), (98, .imul, 1), (99, .isub, 1), (100, .imul, 1), (101, .istore_n 2, 1), (102, .iinc 3 1, 3), (105, .goto (-18), 3), (108, .aload_n 0, 1), (109, .iload_n 2, 1), (110, .ineg, 1), (111, .putfield 33, 3), (114, .aload_n 0, 1), (115, .getfield 21, 3), (118, .iconst 0, 1), (119, .iconst 1, 1), (120, .iastore, 1), (121, .aload_n 0, 1), (122, .getfield 15, 3), (125, .iconst 0, 1), (126, .iconst 1, 1), (127, .iastore, 1), (128, .iconst 0, 1), (129, .istore_n 3, 1), (130, .iload_n 3, 1), (131, .sipush 256, 3), (134, .if_icmp .ge 25, 3), (137, .aload_n 0, 1), (138, .aload_n 0, 1), (139, .getfield 15, 3), (142, .aload_n 0, 1), (143, .getfield 15, 3), (146, .aload_n 0, 1), (147, .getfield 15, 3), (150, .invokevirtual 37, 3), (153, .iinc 3 1, 3), (156, .goto (-26), 3), (159, .aload_n 0, 1), (160, .getfield 15, 3), (163, .aload_n 0, 1), (164, .getfield 18, 3), (167, .invokestatic 41, 3), (170, .iconst 0, 1), (171, .istore_n 3, 1), (172, .iload_n 3, 1), (173, .sipush 256, 3), (176, .if_icmp .ge 25, 3), (179, .aload_n 0, 1), (180, .aload_n 0, 1), (181, .getfield 18, 3), (184, .aload_n 0, 1), (185, .getfield 18, 3), (188, .aload_n 0, 1), (189, .getfield 18, 3), (192, .invokevirtual 37, 3), (195, .iinc 3 1, 3), (198, .goto (-26), 3), (201, .return_, 1)]
set_option maxRecDepth 100000 in
theorem daX15_init : dk_all cX15_init drX15_init = true := by decide +kernel
theorem dX15_init_0 : decode cX15_init 0 = .ok (.aload_n 0, 1) := dk_get daX15_init 0 (r := (0, .aload_n 0, 1)) rfl
theorem dX15_init_1 : decode cX15_init 1 = .ok (.invokespecial 3, 3) := dk_get daX15_init 1 (r := (1, .invokespecial 3, 3)) rfl
theorem dX15_init_4 : decode cX15_init 4 = .ok (.aload_n 0, 1) := dk_get daX15_init 2 (r := (4, .aload_n 0, 1)) rfl
theorem dX15_init_5 : decode cX15_init 5 = .ok (.bipush 8, 2) := dk_get daX15_init 3 (r := (5, .bipush 8, 2)) rfl
theorem dX15_init_7 : decode cX15_init 7 = .ok (.newarray .int, 2) := dk_get daX15_init 4 (r := (7, .newarray .int, 2)) rfl
theorem dX15_init_9 : decode cX15_init 9 = .ok (.putfield 9, 3) := dk_get daX15_init 5 (r := (9, .putfield 9, 3)) rfl
theorem dX15_init_12 : decode cX15_init 12 = .ok (.aload_n 0, 1) := dk_get daX15_init 6 (r := (12, .aload_n 0, 1)) rfl
theorem dX15_init_13 : decode cX15_init 13 = .ok (.bipush 8, 2) := dk_get daX15_init 7 (r := (13, .bipush 8, 2)) rfl
theorem dX15_init_15 : decode cX15_init 15 = .ok (.newarray .int, 2) := dk_get daX15_init 8 (r := (15, .newarray .int, 2)) rfl
theorem dX15_init_17 : decode cX15_init 17 = .ok (.putfield 15, 3) := dk_get daX15_init 9 (r := (17, .putfield 15, 3)) rfl
theorem dX15_init_20 : decode cX15_init 20 = .ok (.aload_n 0, 1) := dk_get daX15_init 10 (r := (20, .aload_n 0, 1)) rfl
theorem dX15_init_21 : decode cX15_init 21 = .ok (.bipush 8, 2) := dk_get daX15_init 11 (r := (21, .bipush 8, 2)) rfl
theorem dX15_init_23 : decode cX15_init 23 = .ok (.newarray .int, 2) := dk_get daX15_init 12 (r := (23, .newarray .int, 2)) rfl
theorem dX15_init_25 : decode cX15_init 25 = .ok (.putfield 18, 3) := dk_get daX15_init 13 (r := (25, .putfield 18, 3)) rfl
theorem dX15_init_28 : decode cX15_init 28 = .ok (.aload_n 0, 1) := dk_get daX15_init 14 (r := (28, .aload_n 0, 1)) rfl
theorem dX15_init_29 : decode cX15_init 29 = .ok (.bipush 8, 2) := dk_get daX15_init 15 (r := (29, .bipush 8, 2)) rfl
theorem dX15_init_31 : decode cX15_init 31 = .ok (.newarray .int, 2) := dk_get daX15_init 16 (r := (31, .newarray .int, 2)) rfl
theorem dX15_init_33 : decode cX15_init 33 = .ok (.putfield 21, 3) := dk_get daX15_init 17 (r := (33, .putfield 21, 3)) rfl
theorem dX15_init_36 : decode cX15_init 36 = .ok (.aload_n 0, 1) := dk_get daX15_init 18 (r := (36, .aload_n 0, 1)) rfl
theorem dX15_init_37 : decode cX15_init 37 = .ok (.bipush 10, 2) := dk_get daX15_init 19 (r := (37, .bipush 10, 2)) rfl
theorem dX15_init_39 : decode cX15_init 39 = .ok (.newarray .int, 2) := dk_get daX15_init 20 (r := (39, .newarray .int, 2)) rfl
theorem dX15_init_41 : decode cX15_init 41 = .ok (.putfield 24, 3) := dk_get daX15_init 21 (r := (41, .putfield 24, 3)) rfl
theorem dX15_init_44 : decode cX15_init 44 = .ok (.aload_n 0, 1) := dk_get daX15_init 22 (r := (44, .aload_n 0, 1)) rfl
theorem dX15_init_45 : decode cX15_init 45 = .ok (.bipush 8, 2) := dk_get daX15_init 23 (r := (45, .bipush 8, 2)) rfl
theorem dX15_init_47 : decode cX15_init 47 = .ok (.newarray .int, 2) := dk_get daX15_init 24 (r := (47, .newarray .int, 2)) rfl
theorem dX15_init_49 : decode cX15_init 49 = .ok (.putfield 27, 3) := dk_get daX15_init 25 (r := (49, .putfield 27, 3)) rfl
theorem dX15_init_52 : decode cX15_init 52 = .ok (.aload_n 0, 1) := dk_get daX15_init 26 (r := (52, .aload_n 0, 1)) rfl
theorem dX15_init_53 : decode cX15_init 53 = .ok (.bipush 8, 2) := dk_get daX15_init 27 (r := (53, .bipush 8, 2)) rfl
theorem dX15_init_55 : decode cX15_init 55 = .ok (.newarray .int, 2) := dk_get daX15_init 28 (r := (55, .newarray .int, 2)) rfl
theorem dX15_init_57 : decode cX15_init 57 = .ok (.putfield 30, 3) := dk_get daX15_init 29 (r := (57, .putfield 30, 3)) rfl
theorem dX15_init_60 : decode cX15_init 60 = .ok (.iconst 0, 1) := dk_get daX15_init 30 (r := (60, .iconst 0, 1)) rfl
theorem dX15_init_61 : decode cX15_init 61 = .ok (.istore_n 2, 1) := dk_get daX15_init 31 (r := (61, .istore_n 2, 1)) rfl
theorem dX15_init_62 : decode cX15_init 62 = .ok (.iload_n 2, 1) := dk_get daX15_init 32 (r := (62, .iload_n 2, 1)) rfl
theorem dX15_init_63 : decode cX15_init 63 = .ok (.bipush 8, 2) := dk_get daX15_init 33 (r := (63, .bipush 8, 2)) rfl
theorem dX15_init_65 : decode cX15_init 65 = .ok (.if_icmp .ge 18, 3) := dk_get daX15_init 34 (r := (65, .if_icmp .ge 18, 3)) rfl
theorem dX15_init_68 : decode cX15_init 68 = .ok (.aload_n 0, 1) := dk_get daX15_init 35 (r := (68, .aload_n 0, 1)) rfl
theorem dX15_init_69 : decode cX15_init 69 = .ok (.getfield 9, 3) := dk_get daX15_init 36 (r := (69, .getfield 9, 3)) rfl
theorem dX15_init_72 : decode cX15_init 72 = .ok (.iload_n 2, 1) := dk_get daX15_init 37 (r := (72, .iload_n 2, 1)) rfl
theorem dX15_init_73 : decode cX15_init 73 = .ok (.aload_n 1, 1) := dk_get daX15_init 38 (r := (73, .aload_n 1, 1)) rfl
theorem dX15_init_74 : decode cX15_init 74 = .ok (.iload_n 2, 1) := dk_get daX15_init 39 (r := (74, .iload_n 2, 1)) rfl
theorem dX15_init_75 : decode cX15_init 75 = .ok (.iaload, 1) := dk_get daX15_init 40 (r := (75, .iaload, 1)) rfl
theorem dX15_init_76 : decode cX15_init 76 = .ok (.iastore, 1) := dk_get daX15_init 41 (r := (76, .iastore, 1)) rfl
theorem dX15_init_77 : decode cX15_init 77 = .ok (.iinc 2 1, 3) := dk_get daX15_init 42 (r := (77, .iinc 2 1, 3)) rfl
theorem dX15_init_80 : decode cX15_init 80 = .ok (.goto (-18), 3) := dk_get daX15_init 43 (r := (80, .goto (-18), 3)) rfl
theorem dX15_init_83 : decode cX15_init 83 = .ok (.iconst 1, 1) := dk_get daX15_init 44 (r := (83, .iconst 1, 1)) rfl
theorem dX15_init_84 : decode cX15_init 84 = .ok (.istore_n 2, 1) := dk_get daX15_init 45 (r := (84, .istore_n 2, 1)) rfl
theorem dX15_init_85 : decode cX15_init 85 = .ok (.iconst 0, 1) := dk_get daX15_init 46 (r := (85, .iconst 0, 1)) rfl
theorem dX15_init_86 : decode cX15_init 86 = .ok (.istore_n 3, 1) := dk_get daX15_init 47 (r := (86, .istore_n 3, 1)) rfl
theorem dX15_init_87 : decode cX15_init 87 = .ok (.iload_n 3, 1) := dk_get daX15_init 48 (r := (87, .iload_n 3, 1)) rfl
theorem dX15_init_88 : decode cX15_init 88 = .ok (.iconst 5, 1) := dk_get daX15_init 49 (r := (88, .iconst 5, 1)) rfl
theorem dX15_init_89 : decode cX15_init 89 = .ok (.if_icmp .ge 19, 3) := dk_get daX15_init 50 (r := (89, .if_icmp .ge 19, 3)) rfl
theorem dX15_init_92 : decode cX15_init 92 = .ok (.iload_n 2, 1) := dk_get daX15_init 51 (r := (92, .iload_n 2, 1)) rfl
theorem dX15_init_93 : decode cX15_init 93 = .ok (.iconst 2, 1) := dk_get daX15_init 52 (r := (93, .iconst 2, 1)) rfl
theorem dX15_init_94 : decode cX15_init 94 = .ok (.aload_n 1, 1) := dk_get daX15_init 53 (r := (94, .aload_n 1, 1)) rfl
theorem dX15_init_95 : decode cX15_init 95 = .ok (.iconst 0, 1) := dk_get daX15_init 54 (r := (95, .iconst 0, 1)) rfl
theorem dX15_init_96 : decode cX15_init 96 = .ok (.iaload, 1) := dk_get daX15_init 55 (r := (96, .iaload, 1)) rfl
theorem dX15_init_97 : decode cX15_init 97 = .ok (.iload_n 2, 1) := dk_get daX15_init 56 (r := (97, .iload_n 2, 1)) rfl
theorem dX15_init_98 : decode cX15_init 98 = .ok (.imul, 1) := dk_get daX15_init 57 (r := (98, .imul, 1)) rfl
theorem dX15_init_99 : decode cX15_init 99 = .ok (.isub, 1) := dk_get daX15_init 58 (r := (99, .isub, 1)) rfl
theorem dX15_init_100 : decode cX15_init 100 = .ok (.imul, 1) := dk_get daX15_init 59 (r := (100, .imul, 1)) rfl
theorem dX15_init_101 : decode cX15_init 101 = .ok (.istore_n 2, 1) := dk_get daX15_init 60 (r := (101, .istore_n 2, 1)) rfl
theorem dX15_init_102 : decode cX15_init 102 = .ok (.iinc 3 1, 3) := dk_get daX15_init 61 (r := (102, .iinc 3 1, 3)) rfl
theorem dX15_init_105 : decode cX15_init 105 = .ok (.goto (-18), 3) := dk_get daX15_init 62 (r := (105, .goto (-18), 3)) rfl
theorem dX15_init_108 : decode cX15_init 108 = .ok (.aload_n 0, 1) := dk_get daX15_init 63 (r := (108, .aload_n 0, 1)) rfl
theorem dX15_init_109 : decode cX15_init 109 = .ok (.iload_n 2, 1) := dk_get daX15_init 64 (r := (109, .iload_n 2, 1)) rfl
theorem dX15_init_110 : decode cX15_init 110 = .ok (.ineg, 1) := dk_get daX15_init 65 (r := (110, .ineg, 1)) rfl
theorem dX15_init_111 : decode cX15_init 111 = .ok (.putfield 33, 3) := dk_get daX15_init 66 (r := (111, .putfield 33, 3)) rfl
theorem dX15_init_114 : decode cX15_init 114 = .ok (.aload_n 0, 1) := dk_get daX15_init 67 (r := (114, .aload_n 0, 1)) rfl
theorem dX15_init_115 : decode cX15_init 115 = .ok (.getfield 21, 3) := dk_get daX15_init 68 (r := (115, .getfield 21, 3)) rfl
theorem dX15_init_118 : decode cX15_init 118 = .ok (.iconst 0, 1) := dk_get daX15_init 69 (r := (118, .iconst 0, 1)) rfl
theorem dX15_init_119 : decode cX15_init 119 = .ok (.iconst 1, 1) := dk_get daX15_init 70 (r := (119, .iconst 1, 1)) rfl
theorem dX15_init_120 : decode cX15_init 120 = .ok (.iastore, 1) := dk_get daX15_init 71 (r := (120, .iastore, 1)) rfl
theorem dX15_init_121 : decode cX15_init 121 = .ok (.aload_n 0, 1) := dk_get daX15_init 72 (r := (121, .aload_n 0, 1)) rfl
theorem dX15_init_122 : decode cX15_init 122 = .ok (.getfield 15, 3) := dk_get daX15_init 73 (r := (122, .getfield 15, 3)) rfl
theorem dX15_init_125 : decode cX15_init 125 = .ok (.iconst 0, 1) := dk_get daX15_init 74 (r := (125, .iconst 0, 1)) rfl
theorem dX15_init_126 : decode cX15_init 126 = .ok (.iconst 1, 1) := dk_get daX15_init 75 (r := (126, .iconst 1, 1)) rfl
theorem dX15_init_127 : decode cX15_init 127 = .ok (.iastore, 1) := dk_get daX15_init 76 (r := (127, .iastore, 1)) rfl
theorem dX15_init_128 : decode cX15_init 128 = .ok (.iconst 0, 1) := dk_get daX15_init 77 (r := (128, .iconst 0, 1)) rfl
theorem dX15_init_129 : decode cX15_init 129 = .ok (.istore_n 3, 1) := dk_get daX15_init 78 (r := (129, .istore_n 3, 1)) rfl
theorem dX15_init_130 : decode cX15_init 130 = .ok (.iload_n 3, 1) := dk_get daX15_init 79 (r := (130, .iload_n 3, 1)) rfl
theorem dX15_init_131 : decode cX15_init 131 = .ok (.sipush 256, 3) := dk_get daX15_init 80 (r := (131, .sipush 256, 3)) rfl
theorem dX15_init_134 : decode cX15_init 134 = .ok (.if_icmp .ge 25, 3) := dk_get daX15_init 81 (r := (134, .if_icmp .ge 25, 3)) rfl
theorem dX15_init_137 : decode cX15_init 137 = .ok (.aload_n 0, 1) := dk_get daX15_init 82 (r := (137, .aload_n 0, 1)) rfl
theorem dX15_init_138 : decode cX15_init 138 = .ok (.aload_n 0, 1) := dk_get daX15_init 83 (r := (138, .aload_n 0, 1)) rfl
theorem dX15_init_139 : decode cX15_init 139 = .ok (.getfield 15, 3) := dk_get daX15_init 84 (r := (139, .getfield 15, 3)) rfl
theorem dX15_init_142 : decode cX15_init 142 = .ok (.aload_n 0, 1) := dk_get daX15_init 85 (r := (142, .aload_n 0, 1)) rfl
theorem dX15_init_143 : decode cX15_init 143 = .ok (.getfield 15, 3) := dk_get daX15_init 86 (r := (143, .getfield 15, 3)) rfl
theorem dX15_init_146 : decode cX15_init 146 = .ok (.aload_n 0, 1) := dk_get daX15_init 87 (r := (146, .aload_n 0, 1)) rfl
theorem dX15_init_147 : decode cX15_init 147 = .ok (.getfield 15, 3) := dk_get daX15_init 88 (r := (147, .getfield 15, 3)) rfl
theorem dX15_init_150 : decode cX15_init 150 = .ok (.invokevirtual 37, 3) := dk_get daX15_init 89 (r := (150, .invokevirtual 37, 3)) rfl
theorem dX15_init_153 : decode cX15_init 153 = .ok (.iinc 3 1, 3) := dk_get daX15_init 90 (r := (153, .iinc 3 1, 3)) rfl
theorem dX15_init_156 : decode cX15_init 156 = .ok (.goto (-26), 3) := dk_get daX15_init 91 (r := (156, .goto (-26), 3)) rfl
theorem dX15_init_159 : decode cX15_init 159 = .ok (.aload_n 0, 1) := dk_get daX15_init 92 (r := (159, .aload_n 0, 1)) rfl
theorem dX15_init_160 : decode cX15_init 160 = .ok (.getfield 15, 3) := dk_get daX15_init 93 (r := (160, .getfield 15, 3)) rfl
theorem dX15_init_163 : decode cX15_init 163 = .ok (.aload_n 0, 1) := dk_get daX15_init 94 (r := (163, .aload_n 0, 1)) rfl
theorem dX15_init_164 : decode cX15_init 164 = .ok (.getfield 18, 3) := dk_get daX15_init 95 (r := (164, .getfield 18, 3)) rfl
theorem dX15_init_167 : decode cX15_init 167 = .ok (.invokestatic 41, 3) := dk_get daX15_init 96 (r := (167, .invokestatic 41, 3)) rfl
theorem dX15_init_170 : decode cX15_init 170 = .ok (.iconst 0, 1) := dk_get daX15_init 97 (r := (170, .iconst 0, 1)) rfl
theorem dX15_init_171 : decode cX15_init 171 = .ok (.istore_n 3, 1) := dk_get daX15_init 98 (r := (171, .istore_n 3, 1)) rfl
theorem dX15_init_172 : decode cX15_init 172 = .ok (.iload_n 3, 1) := dk_get daX15_init 99 (r := (172, .iload_n 3, 1)) rfl
theorem dX15_init_173 : decode cX15_init 173 = .ok (.sipush 256, 3) := dk_get daX15_init 100 (r := (173, .sipush 256, 3)) rfl
theorem dX15_init_176 : decode cX15_init 176 = .ok (.if_icmp .ge 25, 3) := dk_get daX15_init 101 (r := (176, .if_icmp .ge 25, 3)) rfl
theorem dX15_init_179 : decode cX15_init 179 = .ok (.aload_n 0, 1) := dk_get daX15_init 102 (r := (179, .aload_n 0, 1)) rfl
theorem dX15_init_180 : decode cX15_init 180 = .ok (.aload_n 0, 1) := dk_get daX15_init 103 (r := (180, .aload_n 0, 1)) rfl
theorem dX15_init_181 : decode cX15_init 181 = .ok (.getfield 18, 3) := dk_get daX15_init 104 (r := (181, .getfield 18, 3)) rfl
theorem dX15_init_184 : decode cX15_init 184 = .ok (.aload_n 0, 1) := dk_get daX15_init 105 (r := (184, .aload_n 0, 1)) rfl
theorem dX15_init_185 : decode cX15_init 185 = .ok (.getfield 18, 3) := dk_get daX15_init 106 (r := (185, .getfield 18, 3)) rfl
theorem dX15_init_188 : decode cX15_init 188 = .ok (.aload_n 0, 1) := dk_get daX15_init 107 (r := (188, .aload_n 0, 1)) rfl
theorem dX15_init_189 : decode cX15_init 189 = .ok (.getfield 18, 3) := dk_get daX15_init 108 (r := (189, .getfield 18, 3)) rfl
theorem dX15_init_192 : decode cX15_init 192 = .ok (.invokevirtual 37, 3) := dk_get daX15_init 109 (r := (192, .invokevirtual 37, 3)) rfl
theorem dX15_init_195 : decode cX15_init 195 = .ok (.iinc 3 1, 3) := dk_get daX15_init 110 (r := (195, .iinc 3 1, 3)) rfl
theorem dX15_init_198 : decode cX15_init 198 = .ok (.goto (-26), 3) := dk_get daX15_init 111 (r := (198, .goto (-26), 3)) rfl
theorem dX15_init_201 : decode cX15_init 201 = .ok (.return_, 1) := dk_get daX15_init 112 (r := (201, .return_, 1)) rfl
abbrev mX15_copy : ks_M := (RX15, cX15_copy, 3, none, "copy")
def drX15_copy : List (Nat × Instr × Nat) := [(0, .iconst 0, 1), (1, .istore_n 2, 1), (2, .iload_n 2, 1), (3, .bipush 8, 2), (5, .if_icmp .ge 15, 3), (8, .aload_n 1, 1), (9, .iload_n 2, 1), (10, .aload_n 0, 1), (11, .iload_n 2, 1), (12, .iaload, 1), (13, .iastore, 1), (14, .iinc 2 1, 3), (17, .goto (-15), 3), (20, .return_, 1)]
set_option maxRecDepth 100000 in
theorem daX15_copy : dk_all cX15_copy drX15_copy = true := by decide +kernel
theorem dX15_copy_0 : decode cX15_copy 0 = .ok (.iconst 0, 1) := dk_get daX15_copy 0 (r := (0, .iconst 0, 1)) rfl
theorem dX15_copy_1 : decode cX15_copy 1 = .ok (.istore_n 2, 1) := dk_get daX15_copy 1 (r := (1, .istore_n 2, 1)) rfl
theorem dX15_copy_2 : decode cX15_copy 2 = .ok (.iload_n 2, 1) := dk_get daX15_copy 2 (r := (2, .iload_n 2, 1)) rfl
theorem dX15_copy_3 : decode cX15_copy 3 = .ok (.bipush 8, 2) := dk_get daX15_copy 3 (r := (3, .bipush 8, 2)) rfl
theorem dX15_copy_5 : decode cX15_copy 5 = .ok (.if_icmp .ge 15, 3) := dk_get daX15_copy 4 (r := (5, .if_icmp .ge 15, 3)) rfl
theorem dX15_copy_8 : decode cX15_copy 8 = .ok (.aload_n 1, 1) := dk_get daX15_copy 5 (r := (8, .aload_n 1, 1)) rfl
theorem dX15_copy_9 : decode cX15_copy 9 = .ok (.iload_n 2, 1) := dk_get daX15_copy 6 (r := (9, .iload_n 2, 1)) rfl
theorem dX15_copy_10 : decode cX15_copy 10 = .ok (.aload_n 0, 1) := dk_get daX15_copy 7 (r := (10, .aload_n 0, 1)) rfl
theorem dX15_copy_11 : decode cX15_copy 11 = .ok (.iload_n 2, 1) := dk_get daX15_copy 8 (r := (11, .iload_n 2, 1)) rfl
theorem dX15_copy_12 : decode cX15_copy 12 = .ok (.iaload, 1) := dk_get daX15_copy 9 (r := (12, .iaload, 1)) rfl
theorem dX15_copy_13 : decode cX15_copy 13 = .ok (.iastore, 1) := dk_get daX15_copy 10 (r := (13, .iastore, 1)) rfl
theorem dX15_copy_14 : decode cX15_copy 14 = .ok (.iinc 2 1, 3) := dk_get daX15_copy 11 (r := (14, .iinc 2 1, 3)) rfl
theorem dX15_copy_17 : decode cX15_copy 17 = .ok (.goto (-15), 3) := dk_get daX15_copy 12 (r := (17, .goto (-15), 3)) rfl
theorem dX15_copy_20 : decode cX15_copy 20 = .ok (.return_, 1) := dk_get daX15_copy 13 (r := (20, .return_, 1)) rfl
abbrev mX15_isZero : ks_M := (RX15, cX15_isZero, 3, (some .boolean), "isZero")
def drX15_isZero : List (Nat × Instr × Nat) := [(0, .iconst 0, 1), (1, .istore_n 1, 1), (2, .iconst 0, 1), (3, .istore_n 2, 1), (4, .iload_n 2, 1), (5, .bipush 8, 2), (7, .if_icmp .ge 15, 3), (10, .iload_n 1, 1), (11, .aload_n 0, 1), (12, .iload_n 2, 1), (13, .iaload, 1), (14, .ior, 1), (15, .istore_n 1, 1), (16, .iinc 2 1, 3), (19, .goto (-15), 3), (22, .iload_n 1, 1), (23, .ifCond .ne 7, 3), (26, .iconst 1, 1), (27, .goto 4, 3), (30, .iconst 0, 1), (31, .ireturn, 1)]
set_option maxRecDepth 100000 in
theorem daX15_isZero : dk_all cX15_isZero drX15_isZero = true := by decide +kernel
theorem dX15_isZero_0 : decode cX15_isZero 0 = .ok (.iconst 0, 1) := dk_get daX15_isZero 0 (r := (0, .iconst 0, 1)) rfl
theorem dX15_isZero_1 : decode cX15_isZero 1 = .ok (.istore_n 1, 1) := dk_get daX15_isZero 1 (r := (1, .istore_n 1, 1)) rfl
theorem dX15_isZero_2 : decode cX15_isZero 2 = .ok (.iconst 0, 1) := dk_get daX15_isZero 2 (r := (2, .iconst 0, 1)) rfl
theorem dX15_isZero_3 : decode cX15_isZero 3 = .ok (.istore_n 2, 1) := dk_get daX15_isZero 3 (r := (3, .istore_n 2, 1)) rfl
theorem dX15_isZero_4 : decode cX15_isZero 4 = .ok (.iload_n 2, 1) := dk_get daX15_isZero 4 (r := (4, .iload_n 2, 1)) rfl
theorem dX15_isZero_5 : decode cX15_isZero 5 = .ok (.bipush 8, 2) := dk_get daX15_isZero 5 (r := (5, .bipush 8, 2)) rfl
theorem dX15_isZero_7 : decode cX15_isZero 7 = .ok (.if_icmp .ge 15, 3) := dk_get daX15_isZero 6 (r := (7, .if_icmp .ge 15, 3)) rfl
theorem dX15_isZero_10 : decode cX15_isZero 10 = .ok (.iload_n 1, 1) := dk_get daX15_isZero 7 (r := (10, .iload_n 1, 1)) rfl
theorem dX15_isZero_11 : decode cX15_isZero 11 = .ok (.aload_n 0, 1) := dk_get daX15_isZero 8 (r := (11, .aload_n 0, 1)) rfl
theorem dX15_isZero_12 : decode cX15_isZero 12 = .ok (.iload_n 2, 1) := dk_get daX15_isZero 9 (r := (12, .iload_n 2, 1)) rfl
theorem dX15_isZero_13 : decode cX15_isZero 13 = .ok (.iaload, 1) := dk_get daX15_isZero 10 (r := (13, .iaload, 1)) rfl
theorem dX15_isZero_14 : decode cX15_isZero 14 = .ok (.ior, 1) := dk_get daX15_isZero 11 (r := (14, .ior, 1)) rfl
theorem dX15_isZero_15 : decode cX15_isZero 15 = .ok (.istore_n 1, 1) := dk_get daX15_isZero 12 (r := (15, .istore_n 1, 1)) rfl
theorem dX15_isZero_16 : decode cX15_isZero 16 = .ok (.iinc 2 1, 3) := dk_get daX15_isZero 13 (r := (16, .iinc 2 1, 3)) rfl
theorem dX15_isZero_19 : decode cX15_isZero 19 = .ok (.goto (-15), 3) := dk_get daX15_isZero 14 (r := (19, .goto (-15), 3)) rfl
theorem dX15_isZero_22 : decode cX15_isZero 22 = .ok (.iload_n 1, 1) := dk_get daX15_isZero 15 (r := (22, .iload_n 1, 1)) rfl
theorem dX15_isZero_23 : decode cX15_isZero 23 = .ok (.ifCond .ne 7, 3) := dk_get daX15_isZero 16 (r := (23, .ifCond .ne 7, 3)) rfl
theorem dX15_isZero_26 : decode cX15_isZero 26 = .ok (.iconst 1, 1) := dk_get daX15_isZero 17 (r := (26, .iconst 1, 1)) rfl
theorem dX15_isZero_27 : decode cX15_isZero 27 = .ok (.goto 4, 3) := dk_get daX15_isZero 18 (r := (27, .goto 4, 3)) rfl
theorem dX15_isZero_30 : decode cX15_isZero 30 = .ok (.iconst 0, 1) := dk_get daX15_isZero 19 (r := (30, .iconst 0, 1)) rfl
theorem dX15_isZero_31 : decode cX15_isZero 31 = .ok (.ireturn, 1) := dk_get daX15_isZero 20 (r := (31, .ireturn, 1)) rfl
abbrev mX15_same : ks_M := (RX15, cX15_same, 2, (some .boolean), "same")
def drX15_same : List (Nat × Instr × Nat) := [(0, .aload_n 0, 1), (1, .aload_n 1, 1), (2, .invokestatic 45, 3), (5, .ifCond .ne 7, 3), (8, .iconst 1, 1), (9, .goto 4, 3), (12, .iconst 0, 1), (13, .ireturn, 1)]
set_option maxRecDepth 100000 in
theorem daX15_same : dk_all cX15_same drX15_same = true := by decide +kernel
theorem dX15_same_0 : decode cX15_same 0 = .ok (.aload_n 0, 1) := dk_get daX15_same 0 (r := (0, .aload_n 0, 1)) rfl
theorem dX15_same_1 : decode cX15_same 1 = .ok (.aload_n 1, 1) := dk_get daX15_same 1 (r := (1, .aload_n 1, 1)) rfl
theorem dX15_same_2 : decode cX15_same 2 = .ok (.invokestatic 45, 3) := dk_get daX15_same 2 (r := (2, .invokestatic 45, 3)) rfl
theorem dX15_same_5 : decode cX15_same 5 = .ok (.ifCond .ne 7, 3) := dk_get daX15_same 3 (r := (5, .ifCond .ne 7, 3)) rfl
theorem dX15_same_8 : decode cX15_same 8 = .ok (.iconst 1, 1) := dk_get daX15_same 4 (r := (8, .iconst 1, 1)) rfl
theorem dX15_same_9 : decode cX15_same 9 = .ok (.goto 4, 3) := dk_get daX15_same 5 (r := (9, .goto 4, 3)) rfl
theorem dX15_same_12 : decode cX15_same 12 = .ok (.iconst 0, 1) := dk_get daX15_same 6 (r := (12, .iconst 0, 1)) rfl
theorem dX15_same_13 : decode cX15_same 13 = .ok (.ireturn, 1) := dk_get daX15_same 7 (r := (13, .ireturn, 1)) rfl
abbrev mX15_compare : ks_M := (RX15, cX15_compare, 3, (some .int), "compare")
def drX15_compare : List (Nat × Instr × Nat) := [(0, .bipush 7, 2), (2, .istore_n 2, 1), (3, .iload_n 2, 1), (4, .ifCond .lt 44, 3), (7, .aload_n 0, 1), (8, .iload_n 2, 1), (9, .iaload, 1), (10, .aload_n 1, 1), (11, .iload_n 2, 1), (12, .iaload, 1), (13, .if_icmp .eq 29, 3), (16, .aload_n 0, 1), (17, .iload_n 2, 1), (18, .iaload, 1), (19, .i2l, 1), (20, .ldc2_w 49, 3), (23, .land, 1), (24, .aload_n 1, 1), (25, .iload_n 2, 1), (26, .iaload, 1), (27, .i2l, 1), (28, .ldc2_w 49, 3), (31, .land, 1), (32, .lcmp, 1), (33, .ifCond .ge 7, 3), (36, .iconst (-1), 1), (37, .goto 4, 3), (40, .iconst 1, 1), (41, .ireturn, 1), (42, .iinc 2 (-1), 3), (45, .goto (-42), 3), (48, .iconst 0, 1), (49, .ireturn, 1)]
set_option maxRecDepth 100000 in
theorem daX15_compare : dk_all cX15_compare drX15_compare = true := by decide +kernel
theorem dX15_compare_0 : decode cX15_compare 0 = .ok (.bipush 7, 2) := dk_get daX15_compare 0 (r := (0, .bipush 7, 2)) rfl
theorem dX15_compare_2 : decode cX15_compare 2 = .ok (.istore_n 2, 1) := dk_get daX15_compare 1 (r := (2, .istore_n 2, 1)) rfl
theorem dX15_compare_3 : decode cX15_compare 3 = .ok (.iload_n 2, 1) := dk_get daX15_compare 2 (r := (3, .iload_n 2, 1)) rfl
theorem dX15_compare_4 : decode cX15_compare 4 = .ok (.ifCond .lt 44, 3) := dk_get daX15_compare 3 (r := (4, .ifCond .lt 44, 3)) rfl
theorem dX15_compare_7 : decode cX15_compare 7 = .ok (.aload_n 0, 1) := dk_get daX15_compare 4 (r := (7, .aload_n 0, 1)) rfl
theorem dX15_compare_8 : decode cX15_compare 8 = .ok (.iload_n 2, 1) := dk_get daX15_compare 5 (r := (8, .iload_n 2, 1)) rfl
theorem dX15_compare_9 : decode cX15_compare 9 = .ok (.iaload, 1) := dk_get daX15_compare 6 (r := (9, .iaload, 1)) rfl
theorem dX15_compare_10 : decode cX15_compare 10 = .ok (.aload_n 1, 1) := dk_get daX15_compare 7 (r := (10, .aload_n 1, 1)) rfl
theorem dX15_compare_11 : decode cX15_compare 11 = .ok (.iload_n 2, 1) := dk_get daX15_compare 8 (r := (11, .iload_n 2, 1)) rfl
theorem dX15_compare_12 : decode cX15_compare 12 = .ok (.iaload, 1) := dk_get daX15_compare 9 (r := (12, .iaload, 1)) rfl
theorem dX15_compare_13 : decode cX15_compare 13 = .ok (.if_icmp .eq 29, 3) := dk_get daX15_compare 10 (r := (13, .if_icmp .eq 29, 3)) rfl
theorem dX15_compare_16 : decode cX15_compare 16 = .ok (.aload_n 0, 1) := dk_get daX15_compare 11 (r := (16, .aload_n 0, 1)) rfl
theorem dX15_compare_17 : decode cX15_compare 17 = .ok (.iload_n 2, 1) := dk_get daX15_compare 12 (r := (17, .iload_n 2, 1)) rfl
theorem dX15_compare_18 : decode cX15_compare 18 = .ok (.iaload, 1) := dk_get daX15_compare 13 (r := (18, .iaload, 1)) rfl
theorem dX15_compare_19 : decode cX15_compare 19 = .ok (.i2l, 1) := dk_get daX15_compare 14 (r := (19, .i2l, 1)) rfl
theorem dX15_compare_20 : decode cX15_compare 20 = .ok (.ldc2_w 49, 3) := dk_get daX15_compare 15 (r := (20, .ldc2_w 49, 3)) rfl
theorem dX15_compare_23 : decode cX15_compare 23 = .ok (.land, 1) := dk_get daX15_compare 16 (r := (23, .land, 1)) rfl
theorem dX15_compare_24 : decode cX15_compare 24 = .ok (.aload_n 1, 1) := dk_get daX15_compare 17 (r := (24, .aload_n 1, 1)) rfl
theorem dX15_compare_25 : decode cX15_compare 25 = .ok (.iload_n 2, 1) := dk_get daX15_compare 18 (r := (25, .iload_n 2, 1)) rfl
theorem dX15_compare_26 : decode cX15_compare 26 = .ok (.iaload, 1) := dk_get daX15_compare 19 (r := (26, .iaload, 1)) rfl
theorem dX15_compare_27 : decode cX15_compare 27 = .ok (.i2l, 1) := dk_get daX15_compare 20 (r := (27, .i2l, 1)) rfl
theorem dX15_compare_28 : decode cX15_compare 28 = .ok (.ldc2_w 49, 3) := dk_get daX15_compare 21 (r := (28, .ldc2_w 49, 3)) rfl
theorem dX15_compare_31 : decode cX15_compare 31 = .ok (.land, 1) := dk_get daX15_compare 22 (r := (31, .land, 1)) rfl
theorem dX15_compare_32 : decode cX15_compare 32 = .ok (.lcmp, 1) := dk_get daX15_compare 23 (r := (32, .lcmp, 1)) rfl
theorem dX15_compare_33 : decode cX15_compare 33 = .ok (.ifCond .ge 7, 3) := dk_get daX15_compare 24 (r := (33, .ifCond .ge 7, 3)) rfl
theorem dX15_compare_36 : decode cX15_compare 36 = .ok (.iconst (-1), 1) := dk_get daX15_compare 25 (r := (36, .iconst (-1), 1)) rfl
theorem dX15_compare_37 : decode cX15_compare 37 = .ok (.goto 4, 3) := dk_get daX15_compare 26 (r := (37, .goto 4, 3)) rfl
theorem dX15_compare_40 : decode cX15_compare 40 = .ok (.iconst 1, 1) := dk_get daX15_compare 27 (r := (40, .iconst 1, 1)) rfl
theorem dX15_compare_41 : decode cX15_compare 41 = .ok (.ireturn, 1) := dk_get daX15_compare 28 (r := (41, .ireturn, 1)) rfl
theorem dX15_compare_42 : decode cX15_compare 42 = .ok (.iinc 2 (-1), 3) := dk_get daX15_compare 29 (r := (42, .iinc 2 (-1), 3)) rfl
theorem dX15_compare_45 : decode cX15_compare 45 = .ok (.goto (-42), 3) := dk_get daX15_compare 30 (r := (45, .goto (-42), 3)) rfl
theorem dX15_compare_48 : decode cX15_compare 48 = .ok (.iconst 0, 1) := dk_get daX15_compare 31 (r := (48, .iconst 0, 1)) rfl
theorem dX15_compare_49 : decode cX15_compare 49 = .ok (.ireturn, 1) := dk_get daX15_compare 32 (r := (49, .ireturn, 1)) rfl
abbrev mX15_plus : ks_M := (RX15, cX15_plus, 6, (some .long), "plus")
def drX15_plus : List (Nat × Instr × Nat) := [(0, .lconst 0, 1), (1, .lstore_n 3, 1), (2, .iconst 0, 1), (3, .istore 5, 2), (5, .iload 5, 2), (7, .bipush 8, 2), (9, .if_icmp .ge 42, 3), (12, .lload_n 3, 1), (13, .aload_n 0, 1), (14, .iload 5, 2), (16, .iaload, 1), (17, .i2l, 1), (18, .ldc2_w 49, 3), (21, .land, 1), (22, .aload_n 1, 1), (23, .iload 5, 2), (25, .iaload, 1), (26, .i2l, 1), (27, .ldc2_w 49, 3), (30, .land, 1), (31, .ladd, 1), (32, .ladd, 1), (33, .lstore_n 3, 1), (34, .aload_n 2, 1), (35, .iload 5, 2), (37, .lload_n 3, 1), (38, .l2i, 1), (39, .iastore, 1), (40, .lload_n 3, 1), (41, .bipush 32, 2), (43, .lushr, 1), (44, .lstore_n 3, 1), (45, .iinc 5 1, 3), (48, .goto (-43), 3), (51, .lload_n 3, 1), (52, .lreturn, 1)]
set_option maxRecDepth 100000 in
theorem daX15_plus : dk_all cX15_plus drX15_plus = true := by decide +kernel
theorem dX15_plus_0 : decode cX15_plus 0 = .ok (.lconst 0, 1) := dk_get daX15_plus 0 (r := (0, .lconst 0, 1)) rfl
theorem dX15_plus_1 : decode cX15_plus 1 = .ok (.lstore_n 3, 1) := dk_get daX15_plus 1 (r := (1, .lstore_n 3, 1)) rfl
theorem dX15_plus_2 : decode cX15_plus 2 = .ok (.iconst 0, 1) := dk_get daX15_plus 2 (r := (2, .iconst 0, 1)) rfl
theorem dX15_plus_3 : decode cX15_plus 3 = .ok (.istore 5, 2) := dk_get daX15_plus 3 (r := (3, .istore 5, 2)) rfl
theorem dX15_plus_5 : decode cX15_plus 5 = .ok (.iload 5, 2) := dk_get daX15_plus 4 (r := (5, .iload 5, 2)) rfl
theorem dX15_plus_7 : decode cX15_plus 7 = .ok (.bipush 8, 2) := dk_get daX15_plus 5 (r := (7, .bipush 8, 2)) rfl
theorem dX15_plus_9 : decode cX15_plus 9 = .ok (.if_icmp .ge 42, 3) := dk_get daX15_plus 6 (r := (9, .if_icmp .ge 42, 3)) rfl
theorem dX15_plus_12 : decode cX15_plus 12 = .ok (.lload_n 3, 1) := dk_get daX15_plus 7 (r := (12, .lload_n 3, 1)) rfl
theorem dX15_plus_13 : decode cX15_plus 13 = .ok (.aload_n 0, 1) := dk_get daX15_plus 8 (r := (13, .aload_n 0, 1)) rfl
theorem dX15_plus_14 : decode cX15_plus 14 = .ok (.iload 5, 2) := dk_get daX15_plus 9 (r := (14, .iload 5, 2)) rfl
theorem dX15_plus_16 : decode cX15_plus 16 = .ok (.iaload, 1) := dk_get daX15_plus 10 (r := (16, .iaload, 1)) rfl
theorem dX15_plus_17 : decode cX15_plus 17 = .ok (.i2l, 1) := dk_get daX15_plus 11 (r := (17, .i2l, 1)) rfl
theorem dX15_plus_18 : decode cX15_plus 18 = .ok (.ldc2_w 49, 3) := dk_get daX15_plus 12 (r := (18, .ldc2_w 49, 3)) rfl
theorem dX15_plus_21 : decode cX15_plus 21 = .ok (.land, 1) := dk_get daX15_plus 13 (r := (21, .land, 1)) rfl
theorem dX15_plus_22 : decode cX15_plus 22 = .ok (.aload_n 1, 1) := dk_get daX15_plus 14 (r := (22, .aload_n 1, 1)) rfl
theorem dX15_plus_23 : decode cX15_plus 23 = .ok (.iload 5, 2) := dk_get daX15_plus 15 (r := (23, .iload 5, 2)) rfl
theorem dX15_plus_25 : decode cX15_plus 25 = .ok (.iaload, 1) := dk_get daX15_plus 16 (r := (25, .iaload, 1)) rfl
theorem dX15_plus_26 : decode cX15_plus 26 = .ok (.i2l, 1) := dk_get daX15_plus 17 (r := (26, .i2l, 1)) rfl
theorem dX15_plus_27 : decode cX15_plus 27 = .ok (.ldc2_w 49, 3) := dk_get daX15_plus 18 (r := (27, .ldc2_w 49, 3)) rfl
theorem dX15_plus_30 : decode cX15_plus 30 = .ok (.land, 1) := dk_get daX15_plus 19 (r := (30, .land, 1)) rfl
theorem dX15_plus_31 : decode cX15_plus 31 = .ok (.ladd, 1) := dk_get daX15_plus 20 (r := (31, .ladd, 1)) rfl
theorem dX15_plus_32 : decode cX15_plus 32 = .ok (.ladd, 1) := dk_get daX15_plus 21 (r := (32, .ladd, 1)) rfl
theorem dX15_plus_33 : decode cX15_plus 33 = .ok (.lstore_n 3, 1) := dk_get daX15_plus 22 (r := (33, .lstore_n 3, 1)) rfl
theorem dX15_plus_34 : decode cX15_plus 34 = .ok (.aload_n 2, 1) := dk_get daX15_plus 23 (r := (34, .aload_n 2, 1)) rfl
theorem dX15_plus_35 : decode cX15_plus 35 = .ok (.iload 5, 2) := dk_get daX15_plus 24 (r := (35, .iload 5, 2)) rfl
theorem dX15_plus_37 : decode cX15_plus 37 = .ok (.lload_n 3, 1) := dk_get daX15_plus 25 (r := (37, .lload_n 3, 1)) rfl
theorem dX15_plus_38 : decode cX15_plus 38 = .ok (.l2i, 1) := dk_get daX15_plus 26 (r := (38, .l2i, 1)) rfl
theorem dX15_plus_39 : decode cX15_plus 39 = .ok (.iastore, 1) := dk_get daX15_plus 27 (r := (39, .iastore, 1)) rfl
theorem dX15_plus_40 : decode cX15_plus 40 = .ok (.lload_n 3, 1) := dk_get daX15_plus 28 (r := (40, .lload_n 3, 1)) rfl
theorem dX15_plus_41 : decode cX15_plus 41 = .ok (.bipush 32, 2) := dk_get daX15_plus 29 (r := (41, .bipush 32, 2)) rfl
theorem dX15_plus_43 : decode cX15_plus 43 = .ok (.lushr, 1) := dk_get daX15_plus 30 (r := (43, .lushr, 1)) rfl
theorem dX15_plus_44 : decode cX15_plus 44 = .ok (.lstore_n 3, 1) := dk_get daX15_plus 31 (r := (44, .lstore_n 3, 1)) rfl
theorem dX15_plus_45 : decode cX15_plus 45 = .ok (.iinc 5 1, 3) := dk_get daX15_plus 32 (r := (45, .iinc 5 1, 3)) rfl
theorem dX15_plus_48 : decode cX15_plus 48 = .ok (.goto (-43), 3) := dk_get daX15_plus 33 (r := (48, .goto (-43), 3)) rfl
theorem dX15_plus_51 : decode cX15_plus 51 = .ok (.lload_n 3, 1) := dk_get daX15_plus 34 (r := (51, .lload_n 3, 1)) rfl
theorem dX15_plus_52 : decode cX15_plus 52 = .ok (.lreturn, 1) := dk_get daX15_plus 35 (r := (52, .lreturn, 1)) rfl
abbrev mX15_less : ks_M := (RX15, cX15_less, 8, (some .long), "less")
def drX15_less : List (Nat × Instr × Nat) := [(0, .lconst 0, 1), (1, .lstore_n 3, 1), (2, .iconst 0, 1), (3, .istore 5, 2), (5, .iload 5, 2), (7, .bipush 8, 2), (9, .if_icmp .ge 52, 3), (12, .aload_n 0, 1), (13, .iload 5, 2), (15, .iaload, 1), (16, .i2l, 1), (17, .ldc2_w 49, 3), (20, .land, 1), (21, .aload_n 1, 1), (22, .iload 5, 2), (24, .iaload, 1), (25, .i2l, 1), (26, .ldc2_w 49, 3), (29, .land, 1), (30, .lsub, 1), (31, .lload_n 3, 1), (32, .lsub, 1), (33, .lstore 6, 2), (35, .aload_n 2, 1), (36, .iload 5, 2), (38, .lload 6, 2), (40, .l2i, 1), (41, .iastore, 1), (42, .lload 6, 2), (44, .lconst 0, 1), (45, .lcmp, 1), (46, .ifCond .ge 7, 3), (49, .lconst 1, 1), (50, .goto 4, 3), (53, .lconst 0, 1), (54, .lstore_n 3, 1), (55, .iinc 5 1, 3), (58, .goto (-53), 3), (61, .lload_n 3, 1), (62, .lreturn, 1)]
set_option maxRecDepth 100000 in
theorem daX15_less : dk_all cX15_less drX15_less = true := by decide +kernel
theorem dX15_less_0 : decode cX15_less 0 = .ok (.lconst 0, 1) := dk_get daX15_less 0 (r := (0, .lconst 0, 1)) rfl
theorem dX15_less_1 : decode cX15_less 1 = .ok (.lstore_n 3, 1) := dk_get daX15_less 1 (r := (1, .lstore_n 3, 1)) rfl
theorem dX15_less_2 : decode cX15_less 2 = .ok (.iconst 0, 1) := dk_get daX15_less 2 (r := (2, .iconst 0, 1)) rfl
theorem dX15_less_3 : decode cX15_less 3 = .ok (.istore 5, 2) := dk_get daX15_less 3 (r := (3, .istore 5, 2)) rfl
theorem dX15_less_5 : decode cX15_less 5 = .ok (.iload 5, 2) := dk_get daX15_less 4 (r := (5, .iload 5, 2)) rfl
theorem dX15_less_7 : decode cX15_less 7 = .ok (.bipush 8, 2) := dk_get daX15_less 5 (r := (7, .bipush 8, 2)) rfl
theorem dX15_less_9 : decode cX15_less 9 = .ok (.if_icmp .ge 52, 3) := dk_get daX15_less 6 (r := (9, .if_icmp .ge 52, 3)) rfl
theorem dX15_less_12 : decode cX15_less 12 = .ok (.aload_n 0, 1) := dk_get daX15_less 7 (r := (12, .aload_n 0, 1)) rfl
theorem dX15_less_13 : decode cX15_less 13 = .ok (.iload 5, 2) := dk_get daX15_less 8 (r := (13, .iload 5, 2)) rfl
theorem dX15_less_15 : decode cX15_less 15 = .ok (.iaload, 1) := dk_get daX15_less 9 (r := (15, .iaload, 1)) rfl
theorem dX15_less_16 : decode cX15_less 16 = .ok (.i2l, 1) := dk_get daX15_less 10 (r := (16, .i2l, 1)) rfl
theorem dX15_less_17 : decode cX15_less 17 = .ok (.ldc2_w 49, 3) := dk_get daX15_less 11 (r := (17, .ldc2_w 49, 3)) rfl
theorem dX15_less_20 : decode cX15_less 20 = .ok (.land, 1) := dk_get daX15_less 12 (r := (20, .land, 1)) rfl
theorem dX15_less_21 : decode cX15_less 21 = .ok (.aload_n 1, 1) := dk_get daX15_less 13 (r := (21, .aload_n 1, 1)) rfl
theorem dX15_less_22 : decode cX15_less 22 = .ok (.iload 5, 2) := dk_get daX15_less 14 (r := (22, .iload 5, 2)) rfl
theorem dX15_less_24 : decode cX15_less 24 = .ok (.iaload, 1) := dk_get daX15_less 15 (r := (24, .iaload, 1)) rfl
theorem dX15_less_25 : decode cX15_less 25 = .ok (.i2l, 1) := dk_get daX15_less 16 (r := (25, .i2l, 1)) rfl
theorem dX15_less_26 : decode cX15_less 26 = .ok (.ldc2_w 49, 3) := dk_get daX15_less 17 (r := (26, .ldc2_w 49, 3)) rfl
theorem dX15_less_29 : decode cX15_less 29 = .ok (.land, 1) := dk_get daX15_less 18 (r := (29, .land, 1)) rfl
theorem dX15_less_30 : decode cX15_less 30 = .ok (.lsub, 1) := dk_get daX15_less 19 (r := (30, .lsub, 1)) rfl
theorem dX15_less_31 : decode cX15_less 31 = .ok (.lload_n 3, 1) := dk_get daX15_less 20 (r := (31, .lload_n 3, 1)) rfl
theorem dX15_less_32 : decode cX15_less 32 = .ok (.lsub, 1) := dk_get daX15_less 21 (r := (32, .lsub, 1)) rfl
theorem dX15_less_33 : decode cX15_less 33 = .ok (.lstore 6, 2) := dk_get daX15_less 22 (r := (33, .lstore 6, 2)) rfl
theorem dX15_less_35 : decode cX15_less 35 = .ok (.aload_n 2, 1) := dk_get daX15_less 23 (r := (35, .aload_n 2, 1)) rfl
theorem dX15_less_36 : decode cX15_less 36 = .ok (.iload 5, 2) := dk_get daX15_less 24 (r := (36, .iload 5, 2)) rfl
theorem dX15_less_38 : decode cX15_less 38 = .ok (.lload 6, 2) := dk_get daX15_less 25 (r := (38, .lload 6, 2)) rfl
theorem dX15_less_40 : decode cX15_less 40 = .ok (.l2i, 1) := dk_get daX15_less 26 (r := (40, .l2i, 1)) rfl
theorem dX15_less_41 : decode cX15_less 41 = .ok (.iastore, 1) := dk_get daX15_less 27 (r := (41, .iastore, 1)) rfl
theorem dX15_less_42 : decode cX15_less 42 = .ok (.lload 6, 2) := dk_get daX15_less 28 (r := (42, .lload 6, 2)) rfl
theorem dX15_less_44 : decode cX15_less 44 = .ok (.lconst 0, 1) := dk_get daX15_less 29 (r := (44, .lconst 0, 1)) rfl
theorem dX15_less_45 : decode cX15_less 45 = .ok (.lcmp, 1) := dk_get daX15_less 30 (r := (45, .lcmp, 1)) rfl
theorem dX15_less_46 : decode cX15_less 46 = .ok (.ifCond .ge 7, 3) := dk_get daX15_less 31 (r := (46, .ifCond .ge 7, 3)) rfl
theorem dX15_less_49 : decode cX15_less 49 = .ok (.lconst 1, 1) := dk_get daX15_less 32 (r := (49, .lconst 1, 1)) rfl
theorem dX15_less_50 : decode cX15_less 50 = .ok (.goto 4, 3) := dk_get daX15_less 33 (r := (50, .goto 4, 3)) rfl
theorem dX15_less_53 : decode cX15_less 53 = .ok (.lconst 0, 1) := dk_get daX15_less 34 (r := (53, .lconst 0, 1)) rfl
theorem dX15_less_54 : decode cX15_less 54 = .ok (.lstore_n 3, 1) := dk_get daX15_less 35 (r := (54, .lstore_n 3, 1)) rfl
theorem dX15_less_55 : decode cX15_less 55 = .ok (.iinc 5 1, 3) := dk_get daX15_less 36 (r := (55, .iinc 5 1, 3)) rfl
theorem dX15_less_58 : decode cX15_less 58 = .ok (.goto (-53), 3) := dk_get daX15_less 37 (r := (58, .goto (-53), 3)) rfl
theorem dX15_less_61 : decode cX15_less 61 = .ok (.lload_n 3, 1) := dk_get daX15_less 38 (r := (61, .lload_n 3, 1)) rfl
theorem dX15_less_62 : decode cX15_less 62 = .ok (.lreturn, 1) := dk_get daX15_less 39 (r := (62, .lreturn, 1)) rfl
abbrev mX15_add : ks_M := (RX15, cX15_add, 4, none, "add")
def drX15_add : List (Nat × Instr × Nat) := [(0, .aload_n 1, 1), (1, .aload_n 2, 1), (2, .aload_n 3, 1), (3, .invokestatic 51, 3), (6, .lconst 0, 1), (7, .lcmp, 1), (8, .ifCond .ne 14, 3), (11, .aload_n 3, 1), (12, .aload_n 0, 1), (13, .getfield 9, 3), (16, .invokestatic 45, 3), (19, .ifCond .lt 13, 3), (22, .aload_n 3, 1), (23, .aload_n 0, 1), (24, .getfield 9, 3), (27, .aload_n 3, 1), (28, .invokestatic 55, 3), (31, .pop2, 1), (32, .return_, 1)]
set_option maxRecDepth 100000 in
theorem daX15_add : dk_all cX15_add drX15_add = true := by decide +kernel
theorem dX15_add_0 : decode cX15_add 0 = .ok (.aload_n 1, 1) := dk_get daX15_add 0 (r := (0, .aload_n 1, 1)) rfl
theorem dX15_add_1 : decode cX15_add 1 = .ok (.aload_n 2, 1) := dk_get daX15_add 1 (r := (1, .aload_n 2, 1)) rfl
theorem dX15_add_2 : decode cX15_add 2 = .ok (.aload_n 3, 1) := dk_get daX15_add 2 (r := (2, .aload_n 3, 1)) rfl
theorem dX15_add_3 : decode cX15_add 3 = .ok (.invokestatic 51, 3) := dk_get daX15_add 3 (r := (3, .invokestatic 51, 3)) rfl
theorem dX15_add_6 : decode cX15_add 6 = .ok (.lconst 0, 1) := dk_get daX15_add 4 (r := (6, .lconst 0, 1)) rfl
theorem dX15_add_7 : decode cX15_add 7 = .ok (.lcmp, 1) := dk_get daX15_add 5 (r := (7, .lcmp, 1)) rfl
theorem dX15_add_8 : decode cX15_add 8 = .ok (.ifCond .ne 14, 3) := dk_get daX15_add 6 (r := (8, .ifCond .ne 14, 3)) rfl
theorem dX15_add_11 : decode cX15_add 11 = .ok (.aload_n 3, 1) := dk_get daX15_add 7 (r := (11, .aload_n 3, 1)) rfl
theorem dX15_add_12 : decode cX15_add 12 = .ok (.aload_n 0, 1) := dk_get daX15_add 8 (r := (12, .aload_n 0, 1)) rfl
theorem dX15_add_13 : decode cX15_add 13 = .ok (.getfield 9, 3) := dk_get daX15_add 9 (r := (13, .getfield 9, 3)) rfl
theorem dX15_add_16 : decode cX15_add 16 = .ok (.invokestatic 45, 3) := dk_get daX15_add 10 (r := (16, .invokestatic 45, 3)) rfl
theorem dX15_add_19 : decode cX15_add 19 = .ok (.ifCond .lt 13, 3) := dk_get daX15_add 11 (r := (19, .ifCond .lt 13, 3)) rfl
theorem dX15_add_22 : decode cX15_add 22 = .ok (.aload_n 3, 1) := dk_get daX15_add 12 (r := (22, .aload_n 3, 1)) rfl
theorem dX15_add_23 : decode cX15_add 23 = .ok (.aload_n 0, 1) := dk_get daX15_add 13 (r := (23, .aload_n 0, 1)) rfl
theorem dX15_add_24 : decode cX15_add 24 = .ok (.getfield 9, 3) := dk_get daX15_add 14 (r := (24, .getfield 9, 3)) rfl
theorem dX15_add_27 : decode cX15_add 27 = .ok (.aload_n 3, 1) := dk_get daX15_add 15 (r := (27, .aload_n 3, 1)) rfl
theorem dX15_add_28 : decode cX15_add 28 = .ok (.invokestatic 55, 3) := dk_get daX15_add 16 (r := (28, .invokestatic 55, 3)) rfl
theorem dX15_add_31 : decode cX15_add 31 = .ok (.pop2, 1) := dk_get daX15_add 17 (r := (31, .pop2, 1)) rfl
theorem dX15_add_32 : decode cX15_add 32 = .ok (.return_, 1) := dk_get daX15_add 18 (r := (32, .return_, 1)) rfl
abbrev mX15_subtract : ks_M := (RX15, cX15_subtract, 4, none, "subtract")
def drX15_subtract : List (Nat × Instr × Nat) := [(0, .aload_n 1, 1), (1, .aload_n 2, 1), (2, .aload_n 3, 1), (3, .invokestatic 55, 3), (6, .lconst 0, 1), (7, .lcmp, 1), (8, .ifCond .eq 13, 3), (11, .aload_n 3, 1), (12, .aload_n 0, 1), (13, .getfield 9, 3), (16, .aload_n 3, 1), (17, .invokestatic 51, 3), (20, .pop2, 1), (21, .return_, 1)]
set_option maxRecDepth 100000 in
theorem daX15_subtract : dk_all cX15_subtract drX15_subtract = true := by decide +kernel
theorem dX15_subtract_0 : decode cX15_subtract 0 = .ok (.aload_n 1, 1) := dk_get daX15_subtract 0 (r := (0, .aload_n 1, 1)) rfl
theorem dX15_subtract_1 : decode cX15_subtract 1 = .ok (.aload_n 2, 1) := dk_get daX15_subtract 1 (r := (1, .aload_n 2, 1)) rfl
theorem dX15_subtract_2 : decode cX15_subtract 2 = .ok (.aload_n 3, 1) := dk_get daX15_subtract 2 (r := (2, .aload_n 3, 1)) rfl
theorem dX15_subtract_3 : decode cX15_subtract 3 = .ok (.invokestatic 55, 3) := dk_get daX15_subtract 3 (r := (3, .invokestatic 55, 3)) rfl
theorem dX15_subtract_6 : decode cX15_subtract 6 = .ok (.lconst 0, 1) := dk_get daX15_subtract 4 (r := (6, .lconst 0, 1)) rfl
theorem dX15_subtract_7 : decode cX15_subtract 7 = .ok (.lcmp, 1) := dk_get daX15_subtract 5 (r := (7, .lcmp, 1)) rfl
theorem dX15_subtract_8 : decode cX15_subtract 8 = .ok (.ifCond .eq 13, 3) := dk_get daX15_subtract 6 (r := (8, .ifCond .eq 13, 3)) rfl
theorem dX15_subtract_11 : decode cX15_subtract 11 = .ok (.aload_n 3, 1) := dk_get daX15_subtract 7 (r := (11, .aload_n 3, 1)) rfl
theorem dX15_subtract_12 : decode cX15_subtract 12 = .ok (.aload_n 0, 1) := dk_get daX15_subtract 8 (r := (12, .aload_n 0, 1)) rfl
theorem dX15_subtract_13 : decode cX15_subtract 13 = .ok (.getfield 9, 3) := dk_get daX15_subtract 9 (r := (13, .getfield 9, 3)) rfl
theorem dX15_subtract_16 : decode cX15_subtract 16 = .ok (.aload_n 3, 1) := dk_get daX15_subtract 10 (r := (16, .aload_n 3, 1)) rfl
theorem dX15_subtract_17 : decode cX15_subtract 17 = .ok (.invokestatic 51, 3) := dk_get daX15_subtract 11 (r := (17, .invokestatic 51, 3)) rfl
theorem dX15_subtract_20 : decode cX15_subtract 20 = .ok (.pop2, 1) := dk_get daX15_subtract 12 (r := (20, .pop2, 1)) rfl
theorem dX15_subtract_21 : decode cX15_subtract 21 = .ok (.return_, 1) := dk_get daX15_subtract 13 (r := (21, .return_, 1)) rfl
abbrev mX15_put : ks_M := (RX15, cX15_put, 6, none, "put")
def drX15_put : List (Nat × Instr × Nat) := [(0, .lconst 0, 1), (1, .lstore_n 3, 1), (2, .iconst 0, 1), (3, .istore 5, 2), (5, .iload 5, 2), (7, .bipush 8, 2), (9, .if_icmp .ge 55, 3), (12, .lload_n 3, 1), (13, .iload_n 1, 1), (14, .i2l, 1), (15, .ldc2_w 49, 3), (18, .land, 1), (19, .aload_n 2, 1), (20, .iload 5, 2), (22, .iaload, 1), (23, .i2l, 1), (24, .ldc2_w 49, 3), (27, .land, 1), (28, .lmul, 1), (29, .aload_n 0, 1), (30, .getfield 24, 3), (33, .iload 5, 2), (35, .iaload, 1), (36, .i2l, 1), (37, .ldc2_w 49, 3), (40, .land, 1), (41, .ladd, 1), (42, .ladd, 1), (43, .lstore_n 3, 1), (44, .aload_n 0, 1), (45, .getfield 24, 3), (48, .iload 5, 2), (50, .lload_n 3, 1), (51, .l2i, 1), (52, .iastore, 1), (53, .lload_n 3, 1), (54, .bipush 32, 2), (56, .lushr, 1), (57, .lstore_n 3, 1), (58, .iinc 5 1, 3), (61, .goto (-56), 3), (64, .lload_n 3, 1), (65, .aload_n 0, 1), (66, .getfield 24, 3), (69, .bipush 8, 2), (71, .iaload, 1), (72, .i2l, 1), (73, .ldc2_w 49, 3), (76, .land, 1), (77, .ladd, 1), (78, .lstore_n 3, 1), (79, .aload_n 0, 1), (80, .getfield 24, 3), (83, .bipush 8, 2), (85, .lload_n 3, 1), (86, .l2i, 1), (87, .iastore, 1), (88, .aload_n 0, 1), (89, .getfield 24, 3), (92, .bipush 9, 2), (94, .dup2, 1), (95, .iaload, 1), (96, .lload_n 3, 1), (97, .bipush 32, 2), (99, .lushr, 1), (100, .l2i, 1), (101, .iadd, 1), (102, .iastore, 1), (103, .return_, 1)]
set_option maxRecDepth 100000 in
theorem daX15_put : dk_all cX15_put drX15_put = true := by decide +kernel
theorem dX15_put_0 : decode cX15_put 0 = .ok (.lconst 0, 1) := dk_get daX15_put 0 (r := (0, .lconst 0, 1)) rfl
theorem dX15_put_1 : decode cX15_put 1 = .ok (.lstore_n 3, 1) := dk_get daX15_put 1 (r := (1, .lstore_n 3, 1)) rfl
theorem dX15_put_2 : decode cX15_put 2 = .ok (.iconst 0, 1) := dk_get daX15_put 2 (r := (2, .iconst 0, 1)) rfl
theorem dX15_put_3 : decode cX15_put 3 = .ok (.istore 5, 2) := dk_get daX15_put 3 (r := (3, .istore 5, 2)) rfl
theorem dX15_put_5 : decode cX15_put 5 = .ok (.iload 5, 2) := dk_get daX15_put 4 (r := (5, .iload 5, 2)) rfl
theorem dX15_put_7 : decode cX15_put 7 = .ok (.bipush 8, 2) := dk_get daX15_put 5 (r := (7, .bipush 8, 2)) rfl
theorem dX15_put_9 : decode cX15_put 9 = .ok (.if_icmp .ge 55, 3) := dk_get daX15_put 6 (r := (9, .if_icmp .ge 55, 3)) rfl
theorem dX15_put_12 : decode cX15_put 12 = .ok (.lload_n 3, 1) := dk_get daX15_put 7 (r := (12, .lload_n 3, 1)) rfl
theorem dX15_put_13 : decode cX15_put 13 = .ok (.iload_n 1, 1) := dk_get daX15_put 8 (r := (13, .iload_n 1, 1)) rfl
theorem dX15_put_14 : decode cX15_put 14 = .ok (.i2l, 1) := dk_get daX15_put 9 (r := (14, .i2l, 1)) rfl
theorem dX15_put_15 : decode cX15_put 15 = .ok (.ldc2_w 49, 3) := dk_get daX15_put 10 (r := (15, .ldc2_w 49, 3)) rfl
theorem dX15_put_18 : decode cX15_put 18 = .ok (.land, 1) := dk_get daX15_put 11 (r := (18, .land, 1)) rfl
theorem dX15_put_19 : decode cX15_put 19 = .ok (.aload_n 2, 1) := dk_get daX15_put 12 (r := (19, .aload_n 2, 1)) rfl
theorem dX15_put_20 : decode cX15_put 20 = .ok (.iload 5, 2) := dk_get daX15_put 13 (r := (20, .iload 5, 2)) rfl
theorem dX15_put_22 : decode cX15_put 22 = .ok (.iaload, 1) := dk_get daX15_put 14 (r := (22, .iaload, 1)) rfl
theorem dX15_put_23 : decode cX15_put 23 = .ok (.i2l, 1) := dk_get daX15_put 15 (r := (23, .i2l, 1)) rfl
theorem dX15_put_24 : decode cX15_put 24 = .ok (.ldc2_w 49, 3) := dk_get daX15_put 16 (r := (24, .ldc2_w 49, 3)) rfl
theorem dX15_put_27 : decode cX15_put 27 = .ok (.land, 1) := dk_get daX15_put 17 (r := (27, .land, 1)) rfl
theorem dX15_put_28 : decode cX15_put 28 = .ok (.lmul, 1) := dk_get daX15_put 18 (r := (28, .lmul, 1)) rfl
theorem dX15_put_29 : decode cX15_put 29 = .ok (.aload_n 0, 1) := dk_get daX15_put 19 (r := (29, .aload_n 0, 1)) rfl
theorem dX15_put_30 : decode cX15_put 30 = .ok (.getfield 24, 3) := dk_get daX15_put 20 (r := (30, .getfield 24, 3)) rfl
theorem dX15_put_33 : decode cX15_put 33 = .ok (.iload 5, 2) := dk_get daX15_put 21 (r := (33, .iload 5, 2)) rfl
theorem dX15_put_35 : decode cX15_put 35 = .ok (.iaload, 1) := dk_get daX15_put 22 (r := (35, .iaload, 1)) rfl
theorem dX15_put_36 : decode cX15_put 36 = .ok (.i2l, 1) := dk_get daX15_put 23 (r := (36, .i2l, 1)) rfl
theorem dX15_put_37 : decode cX15_put 37 = .ok (.ldc2_w 49, 3) := dk_get daX15_put 24 (r := (37, .ldc2_w 49, 3)) rfl
theorem dX15_put_40 : decode cX15_put 40 = .ok (.land, 1) := dk_get daX15_put 25 (r := (40, .land, 1)) rfl
theorem dX15_put_41 : decode cX15_put 41 = .ok (.ladd, 1) := dk_get daX15_put 26 (r := (41, .ladd, 1)) rfl
theorem dX15_put_42 : decode cX15_put 42 = .ok (.ladd, 1) := dk_get daX15_put 27 (r := (42, .ladd, 1)) rfl
theorem dX15_put_43 : decode cX15_put 43 = .ok (.lstore_n 3, 1) := dk_get daX15_put 28 (r := (43, .lstore_n 3, 1)) rfl
theorem dX15_put_44 : decode cX15_put 44 = .ok (.aload_n 0, 1) := dk_get daX15_put 29 (r := (44, .aload_n 0, 1)) rfl
theorem dX15_put_45 : decode cX15_put 45 = .ok (.getfield 24, 3) := dk_get daX15_put 30 (r := (45, .getfield 24, 3)) rfl
theorem dX15_put_48 : decode cX15_put 48 = .ok (.iload 5, 2) := dk_get daX15_put 31 (r := (48, .iload 5, 2)) rfl
theorem dX15_put_50 : decode cX15_put 50 = .ok (.lload_n 3, 1) := dk_get daX15_put 32 (r := (50, .lload_n 3, 1)) rfl
theorem dX15_put_51 : decode cX15_put 51 = .ok (.l2i, 1) := dk_get daX15_put 33 (r := (51, .l2i, 1)) rfl
theorem dX15_put_52 : decode cX15_put 52 = .ok (.iastore, 1) := dk_get daX15_put 34 (r := (52, .iastore, 1)) rfl
theorem dX15_put_53 : decode cX15_put 53 = .ok (.lload_n 3, 1) := dk_get daX15_put 35 (r := (53, .lload_n 3, 1)) rfl
theorem dX15_put_54 : decode cX15_put 54 = .ok (.bipush 32, 2) := dk_get daX15_put 36 (r := (54, .bipush 32, 2)) rfl
theorem dX15_put_56 : decode cX15_put 56 = .ok (.lushr, 1) := dk_get daX15_put 37 (r := (56, .lushr, 1)) rfl
theorem dX15_put_57 : decode cX15_put 57 = .ok (.lstore_n 3, 1) := dk_get daX15_put 38 (r := (57, .lstore_n 3, 1)) rfl
theorem dX15_put_58 : decode cX15_put 58 = .ok (.iinc 5 1, 3) := dk_get daX15_put 39 (r := (58, .iinc 5 1, 3)) rfl
theorem dX15_put_61 : decode cX15_put 61 = .ok (.goto (-56), 3) := dk_get daX15_put 40 (r := (61, .goto (-56), 3)) rfl
theorem dX15_put_64 : decode cX15_put 64 = .ok (.lload_n 3, 1) := dk_get daX15_put 41 (r := (64, .lload_n 3, 1)) rfl
theorem dX15_put_65 : decode cX15_put 65 = .ok (.aload_n 0, 1) := dk_get daX15_put 42 (r := (65, .aload_n 0, 1)) rfl
theorem dX15_put_66 : decode cX15_put 66 = .ok (.getfield 24, 3) := dk_get daX15_put 43 (r := (66, .getfield 24, 3)) rfl
theorem dX15_put_69 : decode cX15_put 69 = .ok (.bipush 8, 2) := dk_get daX15_put 44 (r := (69, .bipush 8, 2)) rfl
theorem dX15_put_71 : decode cX15_put 71 = .ok (.iaload, 1) := dk_get daX15_put 45 (r := (71, .iaload, 1)) rfl
theorem dX15_put_72 : decode cX15_put 72 = .ok (.i2l, 1) := dk_get daX15_put 46 (r := (72, .i2l, 1)) rfl
theorem dX15_put_73 : decode cX15_put 73 = .ok (.ldc2_w 49, 3) := dk_get daX15_put 47 (r := (73, .ldc2_w 49, 3)) rfl
theorem dX15_put_76 : decode cX15_put 76 = .ok (.land, 1) := dk_get daX15_put 48 (r := (76, .land, 1)) rfl
theorem dX15_put_77 : decode cX15_put 77 = .ok (.ladd, 1) := dk_get daX15_put 49 (r := (77, .ladd, 1)) rfl
theorem dX15_put_78 : decode cX15_put 78 = .ok (.lstore_n 3, 1) := dk_get daX15_put 50 (r := (78, .lstore_n 3, 1)) rfl
theorem dX15_put_79 : decode cX15_put 79 = .ok (.aload_n 0, 1) := dk_get daX15_put 51 (r := (79, .aload_n 0, 1)) rfl
theorem dX15_put_80 : decode cX15_put 80 = .ok (.getfield 24, 3) := dk_get daX15_put 52 (r := (80, .getfield 24, 3)) rfl
theorem dX15_put_83 : decode cX15_put 83 = .ok (.bipush 8, 2) := dk_get daX15_put 53 (r := (83, .bipush 8, 2)) rfl
theorem dX15_put_85 : decode cX15_put 85 = .ok (.lload_n 3, 1) := dk_get daX15_put 54 (r := (85, .lload_n 3, 1)) rfl
theorem dX15_put_86 : decode cX15_put 86 = .ok (.l2i, 1) := dk_get daX15_put 55 (r := (86, .l2i, 1)) rfl
theorem dX15_put_87 : decode cX15_put 87 = .ok (.iastore, 1) := dk_get daX15_put 56 (r := (87, .iastore, 1)) rfl
theorem dX15_put_88 : decode cX15_put 88 = .ok (.aload_n 0, 1) := dk_get daX15_put 57 (r := (88, .aload_n 0, 1)) rfl
theorem dX15_put_89 : decode cX15_put 89 = .ok (.getfield 24, 3) := dk_get daX15_put 58 (r := (89, .getfield 24, 3)) rfl
theorem dX15_put_92 : decode cX15_put 92 = .ok (.bipush 9, 2) := dk_get daX15_put 59 (r := (92, .bipush 9, 2)) rfl
theorem dX15_put_94 : decode cX15_put 94 = .ok (.dup2, 1) := dk_get daX15_put 60 (r := (94, .dup2, 1)) rfl
theorem dX15_put_95 : decode cX15_put 95 = .ok (.iaload, 1) := dk_get daX15_put 61 (r := (95, .iaload, 1)) rfl
theorem dX15_put_96 : decode cX15_put 96 = .ok (.lload_n 3, 1) := dk_get daX15_put 62 (r := (96, .lload_n 3, 1)) rfl
theorem dX15_put_97 : decode cX15_put 97 = .ok (.bipush 32, 2) := dk_get daX15_put 63 (r := (97, .bipush 32, 2)) rfl
theorem dX15_put_99 : decode cX15_put 99 = .ok (.lushr, 1) := dk_get daX15_put 64 (r := (99, .lushr, 1)) rfl
theorem dX15_put_100 : decode cX15_put 100 = .ok (.l2i, 1) := dk_get daX15_put 65 (r := (100, .l2i, 1)) rfl
theorem dX15_put_101 : decode cX15_put 101 = .ok (.iadd, 1) := dk_get daX15_put 66 (r := (101, .iadd, 1)) rfl
theorem dX15_put_102 : decode cX15_put 102 = .ok (.iastore, 1) := dk_get daX15_put 67 (r := (102, .iastore, 1)) rfl
theorem dX15_put_103 : decode cX15_put 103 = .ok (.return_, 1) := dk_get daX15_put 68 (r := (103, .return_, 1)) rfl
abbrev mX15_multiply : ks_M := (RX15, cX15_multiply, 6, none, "multiply")
def drX15_multiply : List (Nat × Instr × Nat) := [(0, .iconst 0, 1), (1, .istore 4, 2), (3, .iload 4, 2), (5, .bipush 10, 2), (7, .if_icmp .ge 17, 3), (10, .aload_n 0, 1), (11, .getfield 24, 3), (14, .iload 4, 2), (16, .iconst 0, 1), (17, .iastore, 1), (18, .iinc 4 1, 3), (21, .goto (-18), 3), (24, .iconst 0, 1), (25, .istore 4, 2), (27, .iload 4, 2), (29, .bipush 8, 2), (31, .if_icmp .ge 77, 3), (34, .aload_n 0, 1), (35, .aload_n 1, 1), (36, .iload 4, 2), (38, .iaload, 1), (39, .aload_n 2, 1), (40, .invokevirtual 58, 3), (43, .aload_n 0, 1), (44, .aload_n 0, 1), (45, .getfield 24, 3), (48, .iconst 0, 1), (49, .iaload, 1), (50, .aload_n 0, 1), (51, .getfield 33, 3), (54, .imul, 1), (55, .aload_n 0, 1), (56, .getfield 9, 3), (59, .invokevirtual 58, 3), (62, .iconst 0, 1), (63, .istore 5, 2), (65, .iload 5, 2), (67, .bipush 9, 2), (69, .if_icmp .ge 25, 3), (72, .aload_n 0, 1), (73, .getfield 24, 3), (76, .iload 5, 2), (78, .aload_n 0, 1), (79, .getfield 24, 3), (82, .iload 5, 2), (84, .iconst 1, 1), (85, .iadd, 1), (86, .iaload, 1), (87, .iastore, 1), (88, .iinc 5 1, 3), (91, .goto (-26), 3), (94, .aload_n 0, 1), (95, .getfield 24, 3), (98, .bipush 9, 2), (100, .iconst 0, 1), (101, .iastore, 1), (102, .iinc 4 1, 3), (105, .goto (-78), 3), (108, .aload_n 0, 1), (109, .getfield 24, 3), (112, .bipush 8, 2), (114, .iaload, 1), (115, .ifCond .eq 7, 3), (118, .iconst 1, 1), (119, .goto 4, 3), (122, .iconst 0, 1), (123, .istore 4, 2), (125, .iconst 0, 1), (126, .istore 5, 2), (128, .iload 5, 2), (130, .bipush 8, 2), (132, .if_icmp .ge 20, 3), (135, .aload_n 3, 1), (136, .iload 5, 2), (138, .aload_n 0, 1), (139, .getfield 24, 3), (142, .iload 5, 2), (144, .iaload, 1), (145, .iastore, 1), (146, .iinc 5 1, 3), (149, .goto (-21), 3), (152, .iload 4, 2), (154, .ifCond .ne 14, 3), (157, .aload_n 3, 1), (158, .aload_n 0, 1), (159, .getfield 9, 3), (162, .invokestatic 45, 3), (165, .ifCond .lt 13, 3), (168, .aload_n 3, 1), (169, .aload_n 0, 1), (170, .getfield 9, 3), (173, .aload_n 3, 1), (174, .invokestatic 55, 3), (177, .pop2, 1), (178, .return_, 1)]
set_option maxRecDepth 100000 in
theorem daX15_multiply : dk_all cX15_multiply drX15_multiply = true := by decide +kernel
theorem dX15_multiply_0 : decode cX15_multiply 0 = .ok (.iconst 0, 1) := dk_get daX15_multiply 0 (r := (0, .iconst 0, 1)) rfl
theorem dX15_multiply_1 : decode cX15_multiply 1 = .ok (.istore 4, 2) := dk_get daX15_multiply 1 (r := (1, .istore 4, 2)) rfl
theorem dX15_multiply_3 : decode cX15_multiply 3 = .ok (.iload 4, 2) := dk_get daX15_multiply 2 (r := (3, .iload 4, 2)) rfl
theorem dX15_multiply_5 : decode cX15_multiply 5 = .ok (.bipush 10, 2) := dk_get daX15_multiply 3 (r := (5, .bipush 10, 2)) rfl
theorem dX15_multiply_7 : decode cX15_multiply 7 = .ok (.if_icmp .ge 17, 3) := dk_get daX15_multiply 4 (r := (7, .if_icmp .ge 17, 3)) rfl
theorem dX15_multiply_10 : decode cX15_multiply 10 = .ok (.aload_n 0, 1) := dk_get daX15_multiply 5 (r := (10, .aload_n 0, 1)) rfl
theorem dX15_multiply_11 : decode cX15_multiply 11 = .ok (.getfield 24, 3) := dk_get daX15_multiply 6 (r := (11, .getfield 24, 3)) rfl
theorem dX15_multiply_14 : decode cX15_multiply 14 = .ok (.iload 4, 2) := dk_get daX15_multiply 7 (r := (14, .iload 4, 2)) rfl
theorem dX15_multiply_16 : decode cX15_multiply 16 = .ok (.iconst 0, 1) := dk_get daX15_multiply 8 (r := (16, .iconst 0, 1)) rfl
theorem dX15_multiply_17 : decode cX15_multiply 17 = .ok (.iastore, 1) := dk_get daX15_multiply 9 (r := (17, .iastore, 1)) rfl
theorem dX15_multiply_18 : decode cX15_multiply 18 = .ok (.iinc 4 1, 3) := dk_get daX15_multiply 10 (r := (18, .iinc 4 1, 3)) rfl
theorem dX15_multiply_21 : decode cX15_multiply 21 = .ok (.goto (-18), 3) := dk_get daX15_multiply 11 (r := (21, .goto (-18), 3)) rfl
theorem dX15_multiply_24 : decode cX15_multiply 24 = .ok (.iconst 0, 1) := dk_get daX15_multiply 12 (r := (24, .iconst 0, 1)) rfl
theorem dX15_multiply_25 : decode cX15_multiply 25 = .ok (.istore 4, 2) := dk_get daX15_multiply 13 (r := (25, .istore 4, 2)) rfl
theorem dX15_multiply_27 : decode cX15_multiply 27 = .ok (.iload 4, 2) := dk_get daX15_multiply 14 (r := (27, .iload 4, 2)) rfl
theorem dX15_multiply_29 : decode cX15_multiply 29 = .ok (.bipush 8, 2) := dk_get daX15_multiply 15 (r := (29, .bipush 8, 2)) rfl
theorem dX15_multiply_31 : decode cX15_multiply 31 = .ok (.if_icmp .ge 77, 3) := dk_get daX15_multiply 16 (r := (31, .if_icmp .ge 77, 3)) rfl
theorem dX15_multiply_34 : decode cX15_multiply 34 = .ok (.aload_n 0, 1) := dk_get daX15_multiply 17 (r := (34, .aload_n 0, 1)) rfl
theorem dX15_multiply_35 : decode cX15_multiply 35 = .ok (.aload_n 1, 1) := dk_get daX15_multiply 18 (r := (35, .aload_n 1, 1)) rfl
theorem dX15_multiply_36 : decode cX15_multiply 36 = .ok (.iload 4, 2) := dk_get daX15_multiply 19 (r := (36, .iload 4, 2)) rfl
theorem dX15_multiply_38 : decode cX15_multiply 38 = .ok (.iaload, 1) := dk_get daX15_multiply 20 (r := (38, .iaload, 1)) rfl
theorem dX15_multiply_39 : decode cX15_multiply 39 = .ok (.aload_n 2, 1) := dk_get daX15_multiply 21 (r := (39, .aload_n 2, 1)) rfl
theorem dX15_multiply_40 : decode cX15_multiply 40 = .ok (.invokevirtual 58, 3) := dk_get daX15_multiply 22 (r := (40, .invokevirtual 58, 3)) rfl
theorem dX15_multiply_43 : decode cX15_multiply 43 = .ok (.aload_n 0, 1) := dk_get daX15_multiply 23 (r := (43, .aload_n 0, 1)) rfl
theorem dX15_multiply_44 : decode cX15_multiply 44 = .ok (.aload_n 0, 1) := dk_get daX15_multiply 24 (r := (44, .aload_n 0, 1)) rfl
theorem dX15_multiply_45 : decode cX15_multiply 45 = .ok (.getfield 24, 3) := dk_get daX15_multiply 25 (r := (45, .getfield 24, 3)) rfl
theorem dX15_multiply_48 : decode cX15_multiply 48 = .ok (.iconst 0, 1) := dk_get daX15_multiply 26 (r := (48, .iconst 0, 1)) rfl
theorem dX15_multiply_49 : decode cX15_multiply 49 = .ok (.iaload, 1) := dk_get daX15_multiply 27 (r := (49, .iaload, 1)) rfl
theorem dX15_multiply_50 : decode cX15_multiply 50 = .ok (.aload_n 0, 1) := dk_get daX15_multiply 28 (r := (50, .aload_n 0, 1)) rfl
theorem dX15_multiply_51 : decode cX15_multiply 51 = .ok (.getfield 33, 3) := dk_get daX15_multiply 29 (r := (51, .getfield 33, 3)) rfl
theorem dX15_multiply_54 : decode cX15_multiply 54 = .ok (.imul, 1) := dk_get daX15_multiply 30 (r := (54, .imul, 1)) rfl
theorem dX15_multiply_55 : decode cX15_multiply 55 = .ok (.aload_n 0, 1) := dk_get daX15_multiply 31 (r := (55, .aload_n 0, 1)) rfl
theorem dX15_multiply_56 : decode cX15_multiply 56 = .ok (.getfield 9, 3) := dk_get daX15_multiply 32 (r := (56, .getfield 9, 3)) rfl
theorem dX15_multiply_59 : decode cX15_multiply 59 = .ok (.invokevirtual 58, 3) := dk_get daX15_multiply 33 (r := (59, .invokevirtual 58, 3)) rfl
theorem dX15_multiply_62 : decode cX15_multiply 62 = .ok (.iconst 0, 1) := dk_get daX15_multiply 34 (r := (62, .iconst 0, 1)) rfl
theorem dX15_multiply_63 : decode cX15_multiply 63 = .ok (.istore 5, 2) := dk_get daX15_multiply 35 (r := (63, .istore 5, 2)) rfl
theorem dX15_multiply_65 : decode cX15_multiply 65 = .ok (.iload 5, 2) := dk_get daX15_multiply 36 (r := (65, .iload 5, 2)) rfl
theorem dX15_multiply_67 : decode cX15_multiply 67 = .ok (.bipush 9, 2) := dk_get daX15_multiply 37 (r := (67, .bipush 9, 2)) rfl
theorem dX15_multiply_69 : decode cX15_multiply 69 = .ok (.if_icmp .ge 25, 3) := dk_get daX15_multiply 38 (r := (69, .if_icmp .ge 25, 3)) rfl
theorem dX15_multiply_72 : decode cX15_multiply 72 = .ok (.aload_n 0, 1) := dk_get daX15_multiply 39 (r := (72, .aload_n 0, 1)) rfl
theorem dX15_multiply_73 : decode cX15_multiply 73 = .ok (.getfield 24, 3) := dk_get daX15_multiply 40 (r := (73, .getfield 24, 3)) rfl
theorem dX15_multiply_76 : decode cX15_multiply 76 = .ok (.iload 5, 2) := dk_get daX15_multiply 41 (r := (76, .iload 5, 2)) rfl
theorem dX15_multiply_78 : decode cX15_multiply 78 = .ok (.aload_n 0, 1) := dk_get daX15_multiply 42 (r := (78, .aload_n 0, 1)) rfl
theorem dX15_multiply_79 : decode cX15_multiply 79 = .ok (.getfield 24, 3) := dk_get daX15_multiply 43 (r := (79, .getfield 24, 3)) rfl
theorem dX15_multiply_82 : decode cX15_multiply 82 = .ok (.iload 5, 2) := dk_get daX15_multiply 44 (r := (82, .iload 5, 2)) rfl
theorem dX15_multiply_84 : decode cX15_multiply 84 = .ok (.iconst 1, 1) := dk_get daX15_multiply 45 (r := (84, .iconst 1, 1)) rfl
theorem dX15_multiply_85 : decode cX15_multiply 85 = .ok (.iadd, 1) := dk_get daX15_multiply 46 (r := (85, .iadd, 1)) rfl
theorem dX15_multiply_86 : decode cX15_multiply 86 = .ok (.iaload, 1) := dk_get daX15_multiply 47 (r := (86, .iaload, 1)) rfl
theorem dX15_multiply_87 : decode cX15_multiply 87 = .ok (.iastore, 1) := dk_get daX15_multiply 48 (r := (87, .iastore, 1)) rfl
theorem dX15_multiply_88 : decode cX15_multiply 88 = .ok (.iinc 5 1, 3) := dk_get daX15_multiply 49 (r := (88, .iinc 5 1, 3)) rfl
theorem dX15_multiply_91 : decode cX15_multiply 91 = .ok (.goto (-26), 3) := dk_get daX15_multiply 50 (r := (91, .goto (-26), 3)) rfl
theorem dX15_multiply_94 : decode cX15_multiply 94 = .ok (.aload_n 0, 1) := dk_get daX15_multiply 51 (r := (94, .aload_n 0, 1)) rfl
theorem dX15_multiply_95 : decode cX15_multiply 95 = .ok (.getfield 24, 3) := dk_get daX15_multiply 52 (r := (95, .getfield 24, 3)) rfl
theorem dX15_multiply_98 : decode cX15_multiply 98 = .ok (.bipush 9, 2) := dk_get daX15_multiply 53 (r := (98, .bipush 9, 2)) rfl
theorem dX15_multiply_100 : decode cX15_multiply 100 = .ok (.iconst 0, 1) := dk_get daX15_multiply 54 (r := (100, .iconst 0, 1)) rfl
theorem dX15_multiply_101 : decode cX15_multiply 101 = .ok (.iastore, 1) := dk_get daX15_multiply 55 (r := (101, .iastore, 1)) rfl
theorem dX15_multiply_102 : decode cX15_multiply 102 = .ok (.iinc 4 1, 3) := dk_get daX15_multiply 56 (r := (102, .iinc 4 1, 3)) rfl
theorem dX15_multiply_105 : decode cX15_multiply 105 = .ok (.goto (-78), 3) := dk_get daX15_multiply 57 (r := (105, .goto (-78), 3)) rfl
theorem dX15_multiply_108 : decode cX15_multiply 108 = .ok (.aload_n 0, 1) := dk_get daX15_multiply 58 (r := (108, .aload_n 0, 1)) rfl
theorem dX15_multiply_109 : decode cX15_multiply 109 = .ok (.getfield 24, 3) := dk_get daX15_multiply 59 (r := (109, .getfield 24, 3)) rfl
theorem dX15_multiply_112 : decode cX15_multiply 112 = .ok (.bipush 8, 2) := dk_get daX15_multiply 60 (r := (112, .bipush 8, 2)) rfl
theorem dX15_multiply_114 : decode cX15_multiply 114 = .ok (.iaload, 1) := dk_get daX15_multiply 61 (r := (114, .iaload, 1)) rfl
theorem dX15_multiply_115 : decode cX15_multiply 115 = .ok (.ifCond .eq 7, 3) := dk_get daX15_multiply 62 (r := (115, .ifCond .eq 7, 3)) rfl
theorem dX15_multiply_118 : decode cX15_multiply 118 = .ok (.iconst 1, 1) := dk_get daX15_multiply 63 (r := (118, .iconst 1, 1)) rfl
theorem dX15_multiply_119 : decode cX15_multiply 119 = .ok (.goto 4, 3) := dk_get daX15_multiply 64 (r := (119, .goto 4, 3)) rfl
theorem dX15_multiply_122 : decode cX15_multiply 122 = .ok (.iconst 0, 1) := dk_get daX15_multiply 65 (r := (122, .iconst 0, 1)) rfl
theorem dX15_multiply_123 : decode cX15_multiply 123 = .ok (.istore 4, 2) := dk_get daX15_multiply 66 (r := (123, .istore 4, 2)) rfl
theorem dX15_multiply_125 : decode cX15_multiply 125 = .ok (.iconst 0, 1) := dk_get daX15_multiply 67 (r := (125, .iconst 0, 1)) rfl
theorem dX15_multiply_126 : decode cX15_multiply 126 = .ok (.istore 5, 2) := dk_get daX15_multiply 68 (r := (126, .istore 5, 2)) rfl
theorem dX15_multiply_128 : decode cX15_multiply 128 = .ok (.iload 5, 2) := dk_get daX15_multiply 69 (r := (128, .iload 5, 2)) rfl
theorem dX15_multiply_130 : decode cX15_multiply 130 = .ok (.bipush 8, 2) := dk_get daX15_multiply 70 (r := (130, .bipush 8, 2)) rfl
theorem dX15_multiply_132 : decode cX15_multiply 132 = .ok (.if_icmp .ge 20, 3) := dk_get daX15_multiply 71 (r := (132, .if_icmp .ge 20, 3)) rfl
theorem dX15_multiply_135 : decode cX15_multiply 135 = .ok (.aload_n 3, 1) := dk_get daX15_multiply 72 (r := (135, .aload_n 3, 1)) rfl
theorem dX15_multiply_136 : decode cX15_multiply 136 = .ok (.iload 5, 2) := dk_get daX15_multiply 73 (r := (136, .iload 5, 2)) rfl
theorem dX15_multiply_138 : decode cX15_multiply 138 = .ok (.aload_n 0, 1) := dk_get daX15_multiply 74 (r := (138, .aload_n 0, 1)) rfl
theorem dX15_multiply_139 : decode cX15_multiply 139 = .ok (.getfield 24, 3) := dk_get daX15_multiply 75 (r := (139, .getfield 24, 3)) rfl
theorem dX15_multiply_142 : decode cX15_multiply 142 = .ok (.iload 5, 2) := dk_get daX15_multiply 76 (r := (142, .iload 5, 2)) rfl
theorem dX15_multiply_144 : decode cX15_multiply 144 = .ok (.iaload, 1) := dk_get daX15_multiply 77 (r := (144, .iaload, 1)) rfl
theorem dX15_multiply_145 : decode cX15_multiply 145 = .ok (.iastore, 1) := dk_get daX15_multiply 78 (r := (145, .iastore, 1)) rfl
theorem dX15_multiply_146 : decode cX15_multiply 146 = .ok (.iinc 5 1, 3) := dk_get daX15_multiply 79 (r := (146, .iinc 5 1, 3)) rfl
theorem dX15_multiply_149 : decode cX15_multiply 149 = .ok (.goto (-21), 3) := dk_get daX15_multiply 80 (r := (149, .goto (-21), 3)) rfl
theorem dX15_multiply_152 : decode cX15_multiply 152 = .ok (.iload 4, 2) := dk_get daX15_multiply 81 (r := (152, .iload 4, 2)) rfl
theorem dX15_multiply_154 : decode cX15_multiply 154 = .ok (.ifCond .ne 14, 3) := dk_get daX15_multiply 82 (r := (154, .ifCond .ne 14, 3)) rfl
theorem dX15_multiply_157 : decode cX15_multiply 157 = .ok (.aload_n 3, 1) := dk_get daX15_multiply 83 (r := (157, .aload_n 3, 1)) rfl
theorem dX15_multiply_158 : decode cX15_multiply 158 = .ok (.aload_n 0, 1) := dk_get daX15_multiply 84 (r := (158, .aload_n 0, 1)) rfl
theorem dX15_multiply_159 : decode cX15_multiply 159 = .ok (.getfield 9, 3) := dk_get daX15_multiply 85 (r := (159, .getfield 9, 3)) rfl
theorem dX15_multiply_162 : decode cX15_multiply 162 = .ok (.invokestatic 45, 3) := dk_get daX15_multiply 86 (r := (162, .invokestatic 45, 3)) rfl
theorem dX15_multiply_165 : decode cX15_multiply 165 = .ok (.ifCond .lt 13, 3) := dk_get daX15_multiply 87 (r := (165, .ifCond .lt 13, 3)) rfl
theorem dX15_multiply_168 : decode cX15_multiply 168 = .ok (.aload_n 3, 1) := dk_get daX15_multiply 88 (r := (168, .aload_n 3, 1)) rfl
theorem dX15_multiply_169 : decode cX15_multiply 169 = .ok (.aload_n 0, 1) := dk_get daX15_multiply 89 (r := (169, .aload_n 0, 1)) rfl
theorem dX15_multiply_170 : decode cX15_multiply 170 = .ok (.getfield 9, 3) := dk_get daX15_multiply 90 (r := (170, .getfield 9, 3)) rfl
theorem dX15_multiply_173 : decode cX15_multiply 173 = .ok (.aload_n 3, 1) := dk_get daX15_multiply 91 (r := (173, .aload_n 3, 1)) rfl
theorem dX15_multiply_174 : decode cX15_multiply 174 = .ok (.invokestatic 55, 3) := dk_get daX15_multiply 92 (r := (174, .invokestatic 55, 3)) rfl
theorem dX15_multiply_177 : decode cX15_multiply 177 = .ok (.pop2, 1) := dk_get daX15_multiply 93 (r := (177, .pop2, 1)) rfl
theorem dX15_multiply_178 : decode cX15_multiply 178 = .ok (.return_, 1) := dk_get daX15_multiply 94 (r := (178, .return_, 1)) rfl
abbrev mX15_enter : ks_M := (RX15, cX15_enter, 3, none, "enter")
def drX15_enter : List (Nat × Instr × Nat) := [(0, .aload_n 0, 1), (1, .aload_n 1, 1), (2, .aload_n 0, 1), (3, .getfield 18, 3), (6, .aload_n 2, 1), (7, .invokevirtual 62, 3), (10, .return_, 1)]
set_option maxRecDepth 100000 in
theorem daX15_enter : dk_all cX15_enter drX15_enter = true := by decide +kernel
theorem dX15_enter_0 : decode cX15_enter 0 = .ok (.aload_n 0, 1) := dk_get daX15_enter 0 (r := (0, .aload_n 0, 1)) rfl
theorem dX15_enter_1 : decode cX15_enter 1 = .ok (.aload_n 1, 1) := dk_get daX15_enter 1 (r := (1, .aload_n 1, 1)) rfl
theorem dX15_enter_2 : decode cX15_enter 2 = .ok (.aload_n 0, 1) := dk_get daX15_enter 2 (r := (2, .aload_n 0, 1)) rfl
theorem dX15_enter_3 : decode cX15_enter 3 = .ok (.getfield 18, 3) := dk_get daX15_enter 3 (r := (3, .getfield 18, 3)) rfl
theorem dX15_enter_6 : decode cX15_enter 6 = .ok (.aload_n 2, 1) := dk_get daX15_enter 4 (r := (6, .aload_n 2, 1)) rfl
theorem dX15_enter_7 : decode cX15_enter 7 = .ok (.invokevirtual 62, 3) := dk_get daX15_enter 5 (r := (7, .invokevirtual 62, 3)) rfl
theorem dX15_enter_10 : decode cX15_enter 10 = .ok (.return_, 1) := dk_get daX15_enter 6 (r := (10, .return_, 1)) rfl
abbrev mX15_leave : ks_M := (RX15, cX15_leave, 3, none, "leave")
def drX15_leave : List (Nat × Instr × Nat) := [(0, .aload_n 0, 1), (1, .aload_n 1, 1), (2, .aload_n 0, 1), (3, .getfield 21, 3), (6, .aload_n 2, 1), (7, .invokevirtual 62, 3), (10, .return_, 1)]
set_option maxRecDepth 100000 in
theorem daX15_leave : dk_all cX15_leave drX15_leave = true := by decide +kernel
theorem dX15_leave_0 : decode cX15_leave 0 = .ok (.aload_n 0, 1) := dk_get daX15_leave 0 (r := (0, .aload_n 0, 1)) rfl
theorem dX15_leave_1 : decode cX15_leave 1 = .ok (.aload_n 1, 1) := dk_get daX15_leave 1 (r := (1, .aload_n 1, 1)) rfl
theorem dX15_leave_2 : decode cX15_leave 2 = .ok (.aload_n 0, 1) := dk_get daX15_leave 2 (r := (2, .aload_n 0, 1)) rfl
theorem dX15_leave_3 : decode cX15_leave 3 = .ok (.getfield 21, 3) := dk_get daX15_leave 3 (r := (3, .getfield 21, 3)) rfl
theorem dX15_leave_6 : decode cX15_leave 6 = .ok (.aload_n 2, 1) := dk_get daX15_leave 4 (r := (6, .aload_n 2, 1)) rfl
theorem dX15_leave_7 : decode cX15_leave 7 = .ok (.invokevirtual 62, 3) := dk_get daX15_leave 5 (r := (7, .invokevirtual 62, 3)) rfl
theorem dX15_leave_10 : decode cX15_leave 10 = .ok (.return_, 1) := dk_get daX15_leave 6 (r := (10, .return_, 1)) rfl
abbrev mX15_power : ks_M := (RX15, cX15_power, 7, none, "power")
def drX15_power : List (Nat × Instr × Nat) := [(0, .aload_n 1, 1), (1, .aload_n 0, 1), (2, .getfield 27, 3), (5, .invokestatic 41, 3), (8, .aload_n 0, 1), (9, .getfield 15, 3), (12, .aload_n 0, 1), (13, .getfield 30, 3), (16, .invokestatic 41, 3), (19, .sipush 255, 3), (22, .istore 5, 2), (24, .iload 5, 2), (26, .iload_n 3, 1), (27, .if_icmp .lt 85, 3), (30, .aload_n 0, 1), (31, .aload_n 0, 1), (32, .getfield 30, 3), (35, .aload_n 0, 1), (36, .getfield 30, 3), (39, .aload_n 0, 1), (40, .getfield 30, 3), (43, .invokevirtual 62, 3), (46, .iload 5, 2), (48, .bipush 32, 2), (50, .if_icmp .ge 14, 3), (53, .aload_n 0, 1), (54, .getfield 9, 3), (57, .iconst 0, 1), (58, .iaload, 1), (59, .iload_n 2, 1), (60, .iadd, 1), (61, .goto 13, 3), (64, .aload_n 0, 1), (65, .getfield 9, 3), (68, .iload 5, 2), (70, .bipush 32, 2), (72, .idiv, 1), (73, .iaload, 1), (74, .istore 6, 2), (76, .iload 6, 2), (78, .iload 5, 2), (80, .bipush 32, 2), (82, .irem, 1), (83, .ishr, 1), (84, .iconst 1, 1), (85, .iand, 1), (86, .iconst 1, 1), (87, .if_icmp .ne 19, 3), (90, .aload_n 0, 1), (91, .aload_n 0, 1), (92, .getfield 30, 3), (95, .aload_n 0, 1), (96, .getfield 27, 3), (99, .aload_n 0, 1), (100, .getfield 30, 3), (103, .invokevirtual 62, 3), (106, .iinc 5 (-1), 3), (109, .goto (-85), 3), (112, .aload_n 0, 1), (113, .getfield 30, 3), (116, .aload 4, 2), (118, .invokestatic 41, 3), (121, .return_, 1)]
set_option maxRecDepth 100000 in
theorem daX15_power : dk_all cX15_power drX15_power = true := by decide +kernel
theorem dX15_power_0 : decode cX15_power 0 = .ok (.aload_n 1, 1) := dk_get daX15_power 0 (r := (0, .aload_n 1, 1)) rfl
theorem dX15_power_1 : decode cX15_power 1 = .ok (.aload_n 0, 1) := dk_get daX15_power 1 (r := (1, .aload_n 0, 1)) rfl
theorem dX15_power_2 : decode cX15_power 2 = .ok (.getfield 27, 3) := dk_get daX15_power 2 (r := (2, .getfield 27, 3)) rfl
theorem dX15_power_5 : decode cX15_power 5 = .ok (.invokestatic 41, 3) := dk_get daX15_power 3 (r := (5, .invokestatic 41, 3)) rfl
theorem dX15_power_8 : decode cX15_power 8 = .ok (.aload_n 0, 1) := dk_get daX15_power 4 (r := (8, .aload_n 0, 1)) rfl
theorem dX15_power_9 : decode cX15_power 9 = .ok (.getfield 15, 3) := dk_get daX15_power 5 (r := (9, .getfield 15, 3)) rfl
theorem dX15_power_12 : decode cX15_power 12 = .ok (.aload_n 0, 1) := dk_get daX15_power 6 (r := (12, .aload_n 0, 1)) rfl
theorem dX15_power_13 : decode cX15_power 13 = .ok (.getfield 30, 3) := dk_get daX15_power 7 (r := (13, .getfield 30, 3)) rfl
theorem dX15_power_16 : decode cX15_power 16 = .ok (.invokestatic 41, 3) := dk_get daX15_power 8 (r := (16, .invokestatic 41, 3)) rfl
theorem dX15_power_19 : decode cX15_power 19 = .ok (.sipush 255, 3) := dk_get daX15_power 9 (r := (19, .sipush 255, 3)) rfl
theorem dX15_power_22 : decode cX15_power 22 = .ok (.istore 5, 2) := dk_get daX15_power 10 (r := (22, .istore 5, 2)) rfl
theorem dX15_power_24 : decode cX15_power 24 = .ok (.iload 5, 2) := dk_get daX15_power 11 (r := (24, .iload 5, 2)) rfl
theorem dX15_power_26 : decode cX15_power 26 = .ok (.iload_n 3, 1) := dk_get daX15_power 12 (r := (26, .iload_n 3, 1)) rfl
theorem dX15_power_27 : decode cX15_power 27 = .ok (.if_icmp .lt 85, 3) := dk_get daX15_power 13 (r := (27, .if_icmp .lt 85, 3)) rfl
theorem dX15_power_30 : decode cX15_power 30 = .ok (.aload_n 0, 1) := dk_get daX15_power 14 (r := (30, .aload_n 0, 1)) rfl
theorem dX15_power_31 : decode cX15_power 31 = .ok (.aload_n 0, 1) := dk_get daX15_power 15 (r := (31, .aload_n 0, 1)) rfl
theorem dX15_power_32 : decode cX15_power 32 = .ok (.getfield 30, 3) := dk_get daX15_power 16 (r := (32, .getfield 30, 3)) rfl
theorem dX15_power_35 : decode cX15_power 35 = .ok (.aload_n 0, 1) := dk_get daX15_power 17 (r := (35, .aload_n 0, 1)) rfl
theorem dX15_power_36 : decode cX15_power 36 = .ok (.getfield 30, 3) := dk_get daX15_power 18 (r := (36, .getfield 30, 3)) rfl
theorem dX15_power_39 : decode cX15_power 39 = .ok (.aload_n 0, 1) := dk_get daX15_power 19 (r := (39, .aload_n 0, 1)) rfl
theorem dX15_power_40 : decode cX15_power 40 = .ok (.getfield 30, 3) := dk_get daX15_power 20 (r := (40, .getfield 30, 3)) rfl
theorem dX15_power_43 : decode cX15_power 43 = .ok (.invokevirtual 62, 3) := dk_get daX15_power 21 (r := (43, .invokevirtual 62, 3)) rfl
theorem dX15_power_46 : decode cX15_power 46 = .ok (.iload 5, 2) := dk_get daX15_power 22 (r := (46, .iload 5, 2)) rfl
theorem dX15_power_48 : decode cX15_power 48 = .ok (.bipush 32, 2) := dk_get daX15_power 23 (r := (48, .bipush 32, 2)) rfl
theorem dX15_power_50 : decode cX15_power 50 = .ok (.if_icmp .ge 14, 3) := dk_get daX15_power 24 (r := (50, .if_icmp .ge 14, 3)) rfl
theorem dX15_power_53 : decode cX15_power 53 = .ok (.aload_n 0, 1) := dk_get daX15_power 25 (r := (53, .aload_n 0, 1)) rfl
theorem dX15_power_54 : decode cX15_power 54 = .ok (.getfield 9, 3) := dk_get daX15_power 26 (r := (54, .getfield 9, 3)) rfl
theorem dX15_power_57 : decode cX15_power 57 = .ok (.iconst 0, 1) := dk_get daX15_power 27 (r := (57, .iconst 0, 1)) rfl
theorem dX15_power_58 : decode cX15_power 58 = .ok (.iaload, 1) := dk_get daX15_power 28 (r := (58, .iaload, 1)) rfl
theorem dX15_power_59 : decode cX15_power 59 = .ok (.iload_n 2, 1) := dk_get daX15_power 29 (r := (59, .iload_n 2, 1)) rfl
theorem dX15_power_60 : decode cX15_power 60 = .ok (.iadd, 1) := dk_get daX15_power 30 (r := (60, .iadd, 1)) rfl
theorem dX15_power_61 : decode cX15_power 61 = .ok (.goto 13, 3) := dk_get daX15_power 31 (r := (61, .goto 13, 3)) rfl
theorem dX15_power_64 : decode cX15_power 64 = .ok (.aload_n 0, 1) := dk_get daX15_power 32 (r := (64, .aload_n 0, 1)) rfl
theorem dX15_power_65 : decode cX15_power 65 = .ok (.getfield 9, 3) := dk_get daX15_power 33 (r := (65, .getfield 9, 3)) rfl
theorem dX15_power_68 : decode cX15_power 68 = .ok (.iload 5, 2) := dk_get daX15_power 34 (r := (68, .iload 5, 2)) rfl
theorem dX15_power_70 : decode cX15_power 70 = .ok (.bipush 32, 2) := dk_get daX15_power 35 (r := (70, .bipush 32, 2)) rfl
theorem dX15_power_72 : decode cX15_power 72 = .ok (.idiv, 1) := dk_get daX15_power 36 (r := (72, .idiv, 1)) rfl
theorem dX15_power_73 : decode cX15_power 73 = .ok (.iaload, 1) := dk_get daX15_power 37 (r := (73, .iaload, 1)) rfl
theorem dX15_power_74 : decode cX15_power 74 = .ok (.istore 6, 2) := dk_get daX15_power 38 (r := (74, .istore 6, 2)) rfl
theorem dX15_power_76 : decode cX15_power 76 = .ok (.iload 6, 2) := dk_get daX15_power 39 (r := (76, .iload 6, 2)) rfl
theorem dX15_power_78 : decode cX15_power 78 = .ok (.iload 5, 2) := dk_get daX15_power 40 (r := (78, .iload 5, 2)) rfl
theorem dX15_power_80 : decode cX15_power 80 = .ok (.bipush 32, 2) := dk_get daX15_power 41 (r := (80, .bipush 32, 2)) rfl
theorem dX15_power_82 : decode cX15_power 82 = .ok (.irem, 1) := dk_get daX15_power 42 (r := (82, .irem, 1)) rfl
theorem dX15_power_83 : decode cX15_power 83 = .ok (.ishr, 1) := dk_get daX15_power 43 (r := (83, .ishr, 1)) rfl
theorem dX15_power_84 : decode cX15_power 84 = .ok (.iconst 1, 1) := dk_get daX15_power 44 (r := (84, .iconst 1, 1)) rfl
theorem dX15_power_85 : decode cX15_power 85 = .ok (.iand, 1) := dk_get daX15_power 45 (r := (85, .iand, 1)) rfl
theorem dX15_power_86 : decode cX15_power 86 = .ok (.iconst 1, 1) := dk_get daX15_power 46 (r := (86, .iconst 1, 1)) rfl
theorem dX15_power_87 : decode cX15_power 87 = .ok (.if_icmp .ne 19, 3) := dk_get daX15_power 47 (r := (87, .if_icmp .ne 19, 3)) rfl
theorem dX15_power_90 : decode cX15_power 90 = .ok (.aload_n 0, 1) := dk_get daX15_power 48 (r := (90, .aload_n 0, 1)) rfl
theorem dX15_power_91 : decode cX15_power 91 = .ok (.aload_n 0, 1) := dk_get daX15_power 49 (r := (91, .aload_n 0, 1)) rfl
theorem dX15_power_92 : decode cX15_power 92 = .ok (.getfield 30, 3) := dk_get daX15_power 50 (r := (92, .getfield 30, 3)) rfl
theorem dX15_power_95 : decode cX15_power 95 = .ok (.aload_n 0, 1) := dk_get daX15_power 51 (r := (95, .aload_n 0, 1)) rfl
theorem dX15_power_96 : decode cX15_power 96 = .ok (.getfield 27, 3) := dk_get daX15_power 52 (r := (96, .getfield 27, 3)) rfl
theorem dX15_power_99 : decode cX15_power 99 = .ok (.aload_n 0, 1) := dk_get daX15_power 53 (r := (99, .aload_n 0, 1)) rfl
theorem dX15_power_100 : decode cX15_power 100 = .ok (.getfield 30, 3) := dk_get daX15_power 54 (r := (100, .getfield 30, 3)) rfl
theorem dX15_power_103 : decode cX15_power 103 = .ok (.invokevirtual 62, 3) := dk_get daX15_power 55 (r := (103, .invokevirtual 62, 3)) rfl
theorem dX15_power_106 : decode cX15_power 106 = .ok (.iinc 5 (-1), 3) := dk_get daX15_power 56 (r := (106, .iinc 5 (-1), 3)) rfl
theorem dX15_power_109 : decode cX15_power 109 = .ok (.goto (-85), 3) := dk_get daX15_power 57 (r := (109, .goto (-85), 3)) rfl
theorem dX15_power_112 : decode cX15_power 112 = .ok (.aload_n 0, 1) := dk_get daX15_power 58 (r := (112, .aload_n 0, 1)) rfl
theorem dX15_power_113 : decode cX15_power 113 = .ok (.getfield 30, 3) := dk_get daX15_power 59 (r := (113, .getfield 30, 3)) rfl
theorem dX15_power_116 : decode cX15_power 116 = .ok (.aload 4, 2) := dk_get daX15_power 60 (r := (116, .aload 4, 2)) rfl
theorem dX15_power_118 : decode cX15_power 118 = .ok (.invokestatic 41, 3) := dk_get daX15_power 61 (r := (118, .invokestatic 41, 3)) rfl
theorem dX15_power_121 : decode cX15_power 121 = .ok (.return_, 1) := dk_get daX15_power 62 (r := (121, .return_, 1)) rfl
set_option maxRecDepth 100000 in
theorem kx_33 : (Jvm.Cond.initialized "CoinJudgeModel$Ring") ∈ lw_tbl := List.mem_append_right _ (List.mem_of_getElem? (i := 33) (by rfl))
set_option maxRecDepth 100000 in
theorem kx_1859 : (Jvm.Cond.code ({ cls := "CoinJudgeModel$Ring", name := "<init>", desc := "([I)V" } : Jvm.MethodName) prog_18_method_1_code (4 : Nat) (Option.none : Option Jvm.ClassFile.FieldType)) ∈ lw_tbl := List.mem_append_right _ (List.mem_of_getElem? (i := 1859) (by rfl))
set_option maxRecDepth 100000 in
theorem kx_1860 : (Jvm.Cond.methodLink "CoinJudgeModel$Ring" (3 : Nat) ({ cls := "java/lang/Object", name := "<init>", desc := "()V" } : Jvm.MethodName)) ∈ lw_tbl := List.mem_append_right _ (List.mem_of_getElem? (i := 1860) (by rfl))
set_option maxRecDepth 100000 in
theorem kx_1861 : (Jvm.Cond.methodLink "CoinJudgeModel$Ring" (37 : Nat) ({ cls := "CoinJudgeModel$Ring", name := "add", desc := "([I[I[I)V" } : Jvm.MethodName)) ∈ lw_tbl := List.mem_append_right _ (List.mem_of_getElem? (i := 1861) (by rfl))
set_option maxRecDepth 100000 in
theorem kx_1862 : (Jvm.Cond.instanceMethod ({ cls := "CoinJudgeModel$Ring", name := "add", desc := "([I[I[I)V" } : Jvm.MethodName)) ∈ lw_tbl := List.mem_append_right _ (List.mem_of_getElem? (i := 1862) (by rfl))
set_option maxRecDepth 100000 in
theorem kx_1863 : (Jvm.Cond.selects "CoinJudgeModel$Ring" ({ cls := "CoinJudgeModel$Ring", name := "add", desc := "([I[I[I)V" } : Jvm.MethodName) ({ cls := "CoinJudgeModel$Ring", name := "add", desc := "([I[I[I)V" } : Jvm.MethodName)) ∈ lw_tbl := List.mem_append_right _ (List.mem_of_getElem? (i := 1863) (by rfl))
set_option maxRecDepth 100000 in
theorem kx_1864 : (Jvm.Cond.code ({ cls := "CoinJudgeModel$Ring", name := "add", desc := "([I[I[I)V" } : Jvm.MethodName) prog_18_method_8_code (4 : Nat) (Option.none : Option Jvm.ClassFile.FieldType)) ∈ lw_tbl := List.mem_append_right _ (List.mem_of_getElem? (i := 1864) (by rfl))
set_option maxRecDepth 100000 in
theorem kx_1865 : (Jvm.Cond.methodLink "CoinJudgeModel$Ring" (51 : Nat) ({ cls := "CoinJudgeModel$Ring", name := "plus", desc := "([I[I[I)J" } : Jvm.MethodName)) ∈ lw_tbl := List.mem_append_right _ (List.mem_of_getElem? (i := 1865) (by rfl))
set_option maxRecDepth 100000 in
theorem kx_1866 : (Jvm.Cond.static ({ cls := "CoinJudgeModel$Ring", name := "plus", desc := "([I[I[I)J" } : Jvm.MethodName)) ∈ lw_tbl := List.mem_append_right _ (List.mem_of_getElem? (i := 1866) (by rfl))
set_option maxRecDepth 100000 in
theorem kx_1867 : (Jvm.Cond.code ({ cls := "CoinJudgeModel$Ring", name := "plus", desc := "([I[I[I)J" } : Jvm.MethodName) prog_18_method_6_code (6 : Nat) (Option.some Jvm.ClassFile.FieldType.long)) ∈ lw_tbl := List.mem_append_right _ (List.mem_of_getElem? (i := 1867) (by rfl))
set_option maxRecDepth 100000 in
theorem kx_1868 : (Jvm.Cond.constantLong "CoinJudgeModel$Ring" (49 : Nat) (4294967295 : Int64)) ∈ lw_tbl := List.mem_append_right _ (List.mem_of_getElem? (i := 1868) (by rfl))
set_option maxRecDepth 100000 in
theorem kx_1869 : (Jvm.Cond.methodLink "CoinJudgeModel$Ring" (45 : Nat) ({ cls := "CoinJudgeModel$Ring", name := "compare", desc := "([I[I)I" } : Jvm.MethodName)) ∈ lw_tbl := List.mem_append_right _ (List.mem_of_getElem? (i := 1869) (by rfl))
set_option maxRecDepth 100000 in
theorem kx_1870 : (Jvm.Cond.static ({ cls := "CoinJudgeModel$Ring", name := "compare", desc := "([I[I)I" } : Jvm.MethodName)) ∈ lw_tbl := List.mem_append_right _ (List.mem_of_getElem? (i := 1870) (by rfl))
set_option maxRecDepth 100000 in
theorem kx_1871 : (Jvm.Cond.code ({ cls := "CoinJudgeModel$Ring", name := "compare", desc := "([I[I)I" } : Jvm.MethodName) prog_18_method_5_code (3 : Nat) (Option.some Jvm.ClassFile.FieldType.int)) ∈ lw_tbl := List.mem_append_right _ (List.mem_of_getElem? (i := 1871) (by rfl))
set_option maxRecDepth 100000 in
theorem kx_1872 : (Jvm.Cond.methodLink "CoinJudgeModel$Ring" (55 : Nat) ({ cls := "CoinJudgeModel$Ring", name := "less", desc := "([I[I[I)J" } : Jvm.MethodName)) ∈ lw_tbl := List.mem_append_right _ (List.mem_of_getElem? (i := 1872) (by rfl))
set_option maxRecDepth 100000 in
theorem kx_1873 : (Jvm.Cond.static ({ cls := "CoinJudgeModel$Ring", name := "less", desc := "([I[I[I)J" } : Jvm.MethodName)) ∈ lw_tbl := List.mem_append_right _ (List.mem_of_getElem? (i := 1873) (by rfl))
set_option maxRecDepth 100000 in
theorem kx_1874 : (Jvm.Cond.code ({ cls := "CoinJudgeModel$Ring", name := "less", desc := "([I[I[I)J" } : Jvm.MethodName) prog_18_method_7_code (8 : Nat) (Option.some Jvm.ClassFile.FieldType.long)) ∈ lw_tbl := List.mem_append_right _ (List.mem_of_getElem? (i := 1874) (by rfl))
set_option maxRecDepth 100000 in
theorem kx_1875 : (Jvm.Cond.methodLink "CoinJudgeModel$Ring" (41 : Nat) ({ cls := "CoinJudgeModel$Ring", name := "copy", desc := "([I[I)V" } : Jvm.MethodName)) ∈ lw_tbl := List.mem_append_right _ (List.mem_of_getElem? (i := 1875) (by rfl))
set_option maxRecDepth 100000 in
theorem kx_1876 : (Jvm.Cond.static ({ cls := "CoinJudgeModel$Ring", name := "copy", desc := "([I[I)V" } : Jvm.MethodName)) ∈ lw_tbl := List.mem_append_right _ (List.mem_of_getElem? (i := 1876) (by rfl))
set_option maxRecDepth 100000 in
theorem kx_1877 : (Jvm.Cond.code ({ cls := "CoinJudgeModel$Ring", name := "copy", desc := "([I[I)V" } : Jvm.MethodName) prog_18_method_2_code (3 : Nat) (Option.none : Option Jvm.ClassFile.FieldType)) ∈ lw_tbl := List.mem_append_right _ (List.mem_of_getElem? (i := 1877) (by rfl))
set_option maxRecDepth 100000 in
theorem kx_1878 : (Jvm.Cond.fieldLink "CoinJudgeModel$Ring" (9 : Nat) "CoinJudgeModel$Ring" "modulus" "[I") ∈ lw_tbl := List.mem_append_right _ (List.mem_of_getElem? (i := 1878) (by rfl))
set_option maxRecDepth 100000 in
theorem kx_1880 : (Jvm.Cond.fieldLink "CoinJudgeModel$Ring" (33 : Nat) "CoinJudgeModel$Ring" "minus" "I") ∈ lw_tbl := List.mem_append_right _ (List.mem_of_getElem? (i := 1880) (by rfl))
set_option maxRecDepth 100000 in
theorem kx_1881 : (Jvm.Cond.fieldLink "CoinJudgeModel$Ring" (15 : Nat) "CoinJudgeModel$Ring" "one" "[I") ∈ lw_tbl := List.mem_append_right _ (List.mem_of_getElem? (i := 1881) (by rfl))
set_option maxRecDepth 100000 in
theorem kx_1883 : (Jvm.Cond.fieldLink "CoinJudgeModel$Ring" (18 : Nat) "CoinJudgeModel$Ring" "twice" "[I") ∈ lw_tbl := List.mem_append_right _ (List.mem_of_getElem? (i := 1883) (by rfl))
set_option maxRecDepth 100000 in
theorem kx_1884 : (Jvm.Cond.fieldLink "CoinJudgeModel$Ring" (21 : Nat) "CoinJudgeModel$Ring" "plain" "[I") ∈ lw_tbl := List.mem_append_right _ (List.mem_of_getElem? (i := 1884) (by rfl))
set_option maxRecDepth 100000 in
theorem kx_1885 : (Jvm.Cond.fieldLink "CoinJudgeModel$Ring" (24 : Nat) "CoinJudgeModel$Ring" "row" "[I") ∈ lw_tbl := List.mem_append_right _ (List.mem_of_getElem? (i := 1885) (by rfl))
set_option maxRecDepth 100000 in
theorem kx_1886 : (Jvm.Cond.fieldLink "CoinJudgeModel$Ring" (27 : Nat) "CoinJudgeModel$Ring" "base" "[I") ∈ lw_tbl := List.mem_append_right _ (List.mem_of_getElem? (i := 1886) (by rfl))
set_option maxRecDepth 100000 in
theorem kx_1887 : (Jvm.Cond.fieldLink "CoinJudgeModel$Ring" (30 : Nat) "CoinJudgeModel$Ring" "other" "[I") ∈ lw_tbl := List.mem_append_right _ (List.mem_of_getElem? (i := 1887) (by rfl))
set_option maxRecDepth 100000 in
theorem kx_1920 : (Jvm.Cond.code ({ cls := "CoinJudgeModel$Ring", name := "enter", desc := "([I[I)V" } : Jvm.MethodName) prog_18_method_12_code (3 : Nat) (Option.none : Option Jvm.ClassFile.FieldType)) ∈ lw_tbl := List.mem_append_right _ (List.mem_of_getElem? (i := 1920) (by rfl))
set_option maxRecDepth 100000 in
theorem kx_1921 : (Jvm.Cond.methodLink "CoinJudgeModel$Ring" (62 : Nat) ({ cls := "CoinJudgeModel$Ring", name := "multiply", desc := "([I[I[I)V" } : Jvm.MethodName)) ∈ lw_tbl := List.mem_append_right _ (List.mem_of_getElem? (i := 1921) (by rfl))
set_option maxRecDepth 100000 in
theorem kx_1922 : (Jvm.Cond.instanceMethod ({ cls := "CoinJudgeModel$Ring", name := "multiply", desc := "([I[I[I)V" } : Jvm.MethodName)) ∈ lw_tbl := List.mem_append_right _ (List.mem_of_getElem? (i := 1922) (by rfl))
set_option maxRecDepth 100000 in
theorem kx_1923 : (Jvm.Cond.selects "CoinJudgeModel$Ring" ({ cls := "CoinJudgeModel$Ring", name := "multiply", desc := "([I[I[I)V" } : Jvm.MethodName) ({ cls := "CoinJudgeModel$Ring", name := "multiply", desc := "([I[I[I)V" } : Jvm.MethodName)) ∈ lw_tbl := List.mem_append_right _ (List.mem_of_getElem? (i := 1923) (by rfl))
set_option maxRecDepth 100000 in
theorem kx_1924 : (Jvm.Cond.code ({ cls := "CoinJudgeModel$Ring", name := "multiply", desc := "([I[I[I)V" } : Jvm.MethodName) prog_18_method_11_code (6 : Nat) (Option.none : Option Jvm.ClassFile.FieldType)) ∈ lw_tbl := List.mem_append_right _ (List.mem_of_getElem? (i := 1924) (by rfl))
set_option maxRecDepth 100000 in
theorem kx_1925 : (Jvm.Cond.methodLink "CoinJudgeModel$Ring" (58 : Nat) ({ cls := "CoinJudgeModel$Ring", name := "put", desc := "(I[I)V" } : Jvm.MethodName)) ∈ lw_tbl := List.mem_append_right _ (List.mem_of_getElem? (i := 1925) (by rfl))
set_option maxRecDepth 100000 in
theorem kx_1927 : (Jvm.Cond.instanceMethod ({ cls := "CoinJudgeModel$Ring", name := "put", desc := "(I[I)V" } : Jvm.MethodName)) ∈ lw_tbl := List.mem_append_right _ (List.mem_of_getElem? (i := 1927) (by rfl))
set_option maxRecDepth 100000 in
theorem kx_1928 : (Jvm.Cond.code ({ cls := "CoinJudgeModel$Ring", name := "put", desc := "(I[I)V" } : Jvm.MethodName) prog_18_method_10_code (6 : Nat) (Option.none : Option Jvm.ClassFile.FieldType)) ∈ lw_tbl := List.mem_append_right _ (List.mem_of_getElem? (i := 1928) (by rfl))
set_option maxRecDepth 100000 in
theorem kx_2289 : (Jvm.Cond.code ({ cls := "CoinJudgeModel$Ring", name := "same", desc := "([I[I)Z" } : Jvm.MethodName) prog_18_method_4_code (2 : Nat) (Option.some Jvm.ClassFile.FieldType.boolean)) ∈ lw_tbl := List.mem_append_right _ (List.mem_of_getElem? (i := 2289) (by rfl))
set_option maxRecDepth 100000 in
theorem kx_2293 : (Jvm.Cond.code ({ cls := "CoinJudgeModel$Ring", name := "power", desc := "([III[I)V" } : Jvm.MethodName) prog_18_method_14_code (7 : Nat) (Option.none : Option Jvm.ClassFile.FieldType)) ∈ lw_tbl := List.mem_append_right _ (List.mem_of_getElem? (i := 2293) (by rfl))
set_option maxRecDepth 100000 in
theorem kx_2297 : (Jvm.Cond.code ({ cls := "CoinJudgeModel$Ring", name := "leave", desc := "([I[I)V" } : Jvm.MethodName) prog_18_method_13_code (3 : Nat) (Option.none : Option Jvm.ClassFile.FieldType)) ∈ lw_tbl := List.mem_append_right _ (List.mem_of_getElem? (i := 2297) (by rfl))
set_option maxRecDepth 100000 in
theorem kx_2301 : (Jvm.Cond.code ({ cls := "CoinJudgeModel$Ring", name := "subtract", desc := "([I[I[I)V" } : Jvm.MethodName) prog_18_method_9_code (4 : Nat) (Option.none : Option Jvm.ClassFile.FieldType)) ∈ lw_tbl := List.mem_append_right _ (List.mem_of_getElem? (i := 2301) (by rfl))
set_option maxRecDepth 100000 in
theorem kx_2308 : (Jvm.Cond.code ({ cls := "CoinJudgeModel$Ring", name := "isZero", desc := "([I)Z" } : Jvm.MethodName) prog_18_method_3_code (3 : Nat) (Option.some Jvm.ClassFile.FieldType.boolean)) ∈ lw_tbl := List.mem_append_right _ (List.mem_of_getElem? (i := 2308) (by rfl))
theorem kxp_52 : Cond.selects "CoinJudgeModel$Ring" ({ cls := "CoinJudgeModel$Ring", name := "put", desc := "(I[I)V" } : MethodName) ({ cls := "CoinJudgeModel$Ring", name := "put", desc := "(I[I)V" } : MethodName) ∈ lw_tbl := List.mem_append_left _ (List.mem_of_getElem? (i := 52) (by decide +kernel))

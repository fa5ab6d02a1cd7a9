theorem cl_X16 : vwCl[19]? = some (RX16, TX16, 119) := rfl
theorem pl_good {ws : List Cond} (ps : List Nat) (hp : ws = ps.filterMap (fun i => tables_1[i]?)) (h : ws.all goodWord = true) : ∀ w ∈ ws, w ∈ lw_tbl ∧ goodWord w = true := by
  intro w hw
  have h1 := List.all_eq_true.mp h w hw
  rw [hp] at hw
  obtain ⟨i, -, hi⟩ := List.mem_filterMap.mp hw
  exact ⟨List.mem_append_right _ (List.mem_of_getElem? hi), h1⟩
set_option maxRecDepth 100000 in
theorem in_X16 : ∀ w ∈ u_ws RX16 TX16 119, w ∈ lw_tbl ∧ goodWord w = true := pl_good [2487, 2489, 2491, 2493, 2495, 2497, 2499, 2501, 2503, 2505, 2507, 2509, 2511, 2513, 2515, 2517, 2519, 2521, 2523, 2525, 2527, 2529, 2531, 2533, 2535, 2537, 2539, 2541, 2543, 2545, 2547, 2549, 2551, 2553, 2555, 2557, 2559, 2561, 2563, 2565, 2567, 2569, 2571, 2573, 2575, 2577, 2579, 2581, 2583, 2585, 2587, 2589, 2591, 2593, 2595, 2597, 2599, 2601, 2603, 2605, 2607, 2609, 2611, 2613, 2615, 2617, 2619, 2621, 2623, 2625, 2627, 2629, 2631, 2633, 2635, 2637, 2639, 2641, 2643, 2645, 2647, 2649, 2651, 2653, 2655, 2657, 2659, 2661, 2663, 2665, 2667, 2669, 2671, 2673, 2675, 2677, 2679, 2681, 2683, 2685, 2687, 2689, 2691, 2693, 2695, 2697, 2699, 2701, 2703, 2705, 2707, 2709, 2711, 2713, 2715, 2717, 2719, 2721, 2723] (by decide +kernel) (by decide +kernel)
abbrev mX16_sha : ks_M := (RX16, cX16_sha, 9, none, "sha")
def drX16_sha : List (Nat × Instr × Nat) := [(0, .iconst 0, 1), (1, .istore 6, 2), (3, .iload 6, 2), (5, .bipush 8, 2), (7, .if_icmp .ge 23, 3), (10, .aload_n 0, 1), (11, .getfield 19, 3), (14, .iload 6, 2), (16, .aload_n 0, 1), (17, .getfield 23, 3), (20, .iload 6, 2), (22, .iaload, 1), (23, .iastore, 1), (24, .iinc 6 1, 3), (27, .goto (-24), 3), (30, .iload_n 3, 1), (31, .bipush 64, 2), (33, .idiv, 1), (34, .bipush 64, 2), (36, .imul, 1), (37, .istore 6, 2), (39, .iconst 0, 1), (40, .istore 7, 2), (42, .iload 7, 2), (44, .iload 6, 2), (46, .if_icmp .ge 18, 3), (49, .aload_n 0, 1), (50, .aload_n 1, 1), (51, .iload_n 2, 1), (52, .iload 7, 2), (54, .iadd, 1), (55, .invokevirtual 26, 3), (58, .iinc 7 64, 3), (61, .goto (-19), 3), (64, .aload_n 0, 1), (65, .aload_n 1, 1), (66, .iload_n 2, 1), (67, .iload 6, 2), (69, .iadd, 1), (70, .iload_n 3, 1), (71, .iload 6, 2), (73, .isub, 1), (74, .iload_n 3, 1), (75, .iconst 1, 1), (76, .invokevirtual 30, 3), (79, .istore 7, 2), (81, .iconst 0, 1), (82, .istore 8, 2), (84, .iload 8, 2), (86, .iload 7, 2), (88, .if_icmp .ge 19, 3), (91, .aload_n 0, 1), (92, .aload_n 0, 1), (93, .getfield 34, 3), (96, .iload 8, 2), (98, .invokevirtual 26, 3), (101, .iinc 8 64, 3), (104, .goto (-20), 3), (107, .iconst 0, 1), (108, .istore 8, 2), (110, .iload 8, 2), (112, .bipush 32, 2), (114, .if_icmp .ge 38, 3), (117, .aload 4, 2), (119, .iload 5, 2), (121, .iload 8, 2), (123, .iadd, 1), (124, .aload_n 0, 1), (125, .getfield 19, 3), (128, .iload 8, 2), (130, .iconst 4, 1), (131, .idiv, 1), (132, .iaload, 1), (133, .bipush 24, 2), (135, .bipush 8, 2), (137, .iload 8, 2), (139, .iconst 4, 1), (140, .irem, 1), (141, .imul, 1), (142, .isub, 1), (143, .iushr, 1), (144, .i2b, 1), (145, .bastore, 1), (146, .iinc 8 1, 3), (149, .goto (-39), 3), (152, .return_, 1)]
set_option maxRecDepth 100000 in
theorem daX16_sha : dk_all cX16_sha drX16_sha = true := by decide +kernel
theorem dX16_sha_0 : decode cX16_sha 0 = .ok (.iconst 0, 1) := dk_get daX16_sha 0 (r := (0, .iconst 0, 1)) rfl
theorem dX16_sha_1 : decode cX16_sha 1 = .ok (.istore 6, 2) := dk_get daX16_sha 1 (r := (1, .istore 6, 2)) rfl
theorem dX16_sha_3 : decode cX16_sha 3 = .ok (.iload 6, 2) := dk_get daX16_sha 2 (r := (3, .iload 6, 2)) rfl
theorem dX16_sha_5 : decode cX16_sha 5 = .ok (.bipush 8, 2) := dk_get daX16_sha 3 (r := (5, .bipush 8, 2)) rfl
theorem dX16_sha_7 : decode cX16_sha 7 = .ok (.if_icmp .ge 23, 3) := dk_get daX16_sha 4 (r := (7, .if_icmp .ge 23, 3)) rfl
theorem dX16_sha_10 : decode cX16_sha 10 = .ok (.aload_n 0, 1) := dk_get daX16_sha 5 (r := (10, .aload_n 0, 1)) rfl
theorem dX16_sha_11 : decode cX16_sha 11 = .ok (.getfield 19, 3) := dk_get daX16_sha 6 (r := (11, .getfield 19, 3)) rfl
theorem dX16_sha_14 : decode cX16_sha 14 = .ok (.iload 6, 2) := dk_get daX16_sha 7 (r := (14, .iload 6, 2)) rfl
theorem dX16_sha_16 : decode cX16_sha 16 = .ok (.aload_n 0, 1) := dk_get daX16_sha 8 (r := (16, .aload_n 0, 1)) rfl
theorem dX16_sha_17 : decode cX16_sha 17 = .ok (.getfield 23, 3) := dk_get daX16_sha 9 (r := (17, .getfield 23, 3)) rfl
theorem dX16_sha_20 : decode cX16_sha 20 = .ok (.iload 6, 2) := dk_get daX16_sha 10 (r := (20, .iload 6, 2)) rfl
theorem dX16_sha_22 : decode cX16_sha 22 = .ok (.iaload, 1) := dk_get daX16_sha 11 (r := (22, .iaload, 1)) rfl
theorem dX16_sha_23 : decode cX16_sha 23 = .ok (.iastore, 1) := dk_get daX16_sha 12 (r := (23, .iastore, 1)) rfl
theorem dX16_sha_24 : decode cX16_sha 24 = .ok (.iinc 6 1, 3) := dk_get daX16_sha 13 (r := (24, .iinc 6 1, 3)) rfl
theorem dX16_sha_27 : decode cX16_sha 27 = .ok (.goto (-24), 3) := dk_get daX16_sha 14 (r := (27, .goto (-24), 3)) rfl
theorem dX16_sha_30 : decode cX16_sha 30 = .ok (.iload_n 3, 1) := dk_get daX16_sha 15 (r := (30, .iload_n 3, 1)) rfl
theorem dX16_sha_31 : decode cX16_sha 31 = .ok (.bipush 64, 2) := dk_get daX16_sha 16 (r := (31, .bipush 64, 2)) rfl
theorem dX16_sha_33 : decode cX16_sha 33 = .ok (.idiv, 1) := dk_get daX16_sha 17 (r := (33, .idiv, 1)) rfl
theorem dX16_sha_34 : decode cX16_sha 34 = .ok (.bipush 64, 2) := dk_get daX16_sha 18 (r := (34, .bipush 64, 2)) rfl
theorem dX16_sha_36 : decode cX16_sha 36 = .ok (.imul, 1) := dk_get daX16_sha 19 (r := (36, .imul, 1)) rfl
theorem dX16_sha_37 : decode cX16_sha 37 = .ok (.istore 6, 2) := dk_get daX16_sha 20 (r := (37, .istore 6, 2)) rfl
theorem dX16_sha_39 : decode cX16_sha 39 = .ok (.iconst 0, 1) := dk_get daX16_sha 21 (r := (39, .iconst 0, 1)) rfl
theorem dX16_sha_40 : decode cX16_sha 40 = .ok (.istore 7, 2) := dk_get daX16_sha 22 (r := (40, .istore 7, 2)) rfl
theorem dX16_sha_42 : decode cX16_sha 42 = .ok (.iload 7, 2) := dk_get daX16_sha 23 (r := (42, .iload 7, 2)) rfl
theorem dX16_sha_44 : decode cX16_sha 44 = .ok (.iload 6, 2) := dk_get daX16_sha 24 (r := (44, .iload 6, 2)) rfl
theorem dX16_sha_46 : decode cX16_sha 46 = .ok (.if_icmp .ge 18, 3) := dk_get daX16_sha 25 (r := (46, .if_icmp .ge 18, 3)) rfl
theorem dX16_sha_49 : decode cX16_sha 49 = .ok (.aload_n 0, 1) := dk_get daX16_sha 26 (r := (49, .aload_n 0, 1)) rfl
theorem dX16_sha_50 : decode cX16_sha 50 = .ok (.aload_n 1, 1) := dk_get daX16_sha 27 (r := (50, .aload_n 1, 1)) rfl
theorem dX16_sha_51 : decode cX16_sha 51 = .ok (.iload_n 2, 1) := dk_get daX16_sha 28 (r := (51, .iload_n 2, 1)) rfl
theorem dX16_sha_52 : decode cX16_sha 52 = .ok (.iload 7, 2) := dk_get daX16_sha 29 (r := (52, .iload 7, 2)) rfl
theorem dX16_sha_54 : decode cX16_sha 54 = .ok (.iadd, 1) := dk_get daX16_sha 30 (r := (54, .iadd, 1)) rfl
theorem dX16_sha_55 : decode cX16_sha 55 = .ok (.invokevirtual 26, 3) := dk_get daX16_sha 31 (r := (55, .invokevirtual 26, 3)) rfl
theorem dX16_sha_58 : decode cX16_sha 58 = .ok (.iinc 7 64, 3) := dk_get daX16_sha 32 (r := (58, .iinc 7 64, 3)) rfl
theorem dX16_sha_61 : decode cX16_sha 61 = .ok (.goto (-19), 3) := dk_get daX16_sha 33 (r := (61, .goto (-19), 3)) rfl
theorem dX16_sha_64 : decode cX16_sha 64 = .ok (.aload_n 0, 1) := dk_get daX16_sha 34 (r := (64, .aload_n 0, 1)) rfl
theorem dX16_sha_65 : decode cX16_sha 65 = .ok (.aload_n 1, 1) := dk_get daX16_sha 35 (r := (65, .aload_n 1, 1)) rfl
theorem dX16_sha_66 : decode cX16_sha 66 = .ok (.iload_n 2, 1) := dk_get daX16_sha 36 (r := (66, .iload_n 2, 1)) rfl
theorem dX16_sha_67 : decode cX16_sha 67 = .ok (.iload 6, 2) := dk_get daX16_sha 37 (r := (67, .iload 6, 2)) rfl
theorem dX16_sha_69 : decode cX16_sha 69 = .ok (.iadd, 1) := dk_get daX16_sha 38 (r := (69, .iadd, 1)) rfl
theorem dX16_sha_70 : decode cX16_sha 70 = .ok (.iload_n 3, 1) := dk_get daX16_sha 39 (r := (70, .iload_n 3, 1)) rfl
theorem dX16_sha_71 : decode cX16_sha 71 = .ok (.iload 6, 2) := dk_get daX16_sha 40 (r := (71, .iload 6, 2)) rfl
theorem dX16_sha_73 : decode cX16_sha 73 = .ok (.isub, 1) := dk_get daX16_sha 41 (r := (73, .isub, 1)) rfl
theorem dX16_sha_74 : decode cX16_sha 74 = .ok (.iload_n 3, 1) := dk_get daX16_sha 42 (r := (74, .iload_n 3, 1)) rfl
theorem dX16_sha_75 : decode cX16_sha 75 = .ok (.iconst 1, 1) := dk_get daX16_sha 43 (r := (75, .iconst 1, 1)) rfl
theorem dX16_sha_76 : decode cX16_sha 76 = .ok (.invokevirtual 30, 3) := dk_get daX16_sha 44 (r := (76, .invokevirtual 30, 3)) rfl
theorem dX16_sha_79 : decode cX16_sha 79 = .ok (.istore 7, 2) := dk_get daX16_sha 45 (r := (79, .istore 7, 2)) rfl
theorem dX16_sha_81 : decode cX16_sha 81 = .ok (.iconst 0, 1) := dk_get daX16_sha 46 (r := (81, .iconst 0, 1)) rfl
theorem dX16_sha_82 : decode cX16_sha 82 = .ok (.istore 8, 2) := dk_get daX16_sha 47 (r := (82, .istore 8, 2)) rfl
theorem dX16_sha_84 : decode cX16_sha 84 = .ok (.iload 8, 2) := dk_get daX16_sha 48 (r := (84, .iload 8, 2)) rfl
theorem dX16_sha_86 : decode cX16_sha 86 = .ok (.iload 7, 2) := dk_get daX16_sha 49 (r := (86, .iload 7, 2)) rfl
theorem dX16_sha_88 : decode cX16_sha 88 = .ok (.if_icmp .ge 19, 3) := dk_get daX16_sha 50 (r := (88, .if_icmp .ge 19, 3)) rfl
theorem dX16_sha_91 : decode cX16_sha 91 = .ok (.aload_n 0, 1) := dk_get daX16_sha 51 (r := (91, .aload_n 0, 1)) rfl
theorem dX16_sha_92 : decode cX16_sha 92 = .ok (.aload_n 0, 1) := dk_get daX16_sha 52 (r := (92, .aload_n 0, 1)) rfl
theorem dX16_sha_93 : decode cX16_sha 93 = .ok (.getfield 34, 3) := dk_get daX16_sha 53 (r := (93, .getfield 34, 3)) rfl
theorem dX16_sha_96 : decode cX16_sha 96 = .ok (.iload 8, 2) := dk_get daX16_sha 54 (r := (96, .iload 8, 2)) rfl
theorem dX16_sha_98 : decode cX16_sha 98 = .ok (.invokevirtual 26, 3) := dk_get daX16_sha 55 (r := (98, .invokevirtual 26, 3)) rfl
theorem dX16_sha_101 : decode cX16_sha 101 = .ok (.iinc 8 64, 3) := dk_get daX16_sha 56 (r := (101, .iinc 8 64, 3)) rfl
theorem dX16_sha_104 : decode cX16_sha 104 = .ok (.goto (-20), 3) := dk_get daX16_sha 57 (r := (104, .goto (-20), 3)) rfl
theorem dX16_sha_107 : decode cX16_sha 107 = .ok (.iconst 0, 1) := dk_get daX16_sha 58 (r := (107, .iconst 0, 1)) rfl
theorem dX16_sha_108 : decode cX16_sha 108 = .ok (.istore 8, 2) := dk_get daX16_sha 59 (r := (108, .istore 8, 2)) rfl
theorem dX16_sha_110 : decode cX16_sha 110 = .ok (.iload 8, 2) := dk_get daX16_sha 60 (r := (110, .iload 8, 2)) rfl
theorem dX16_sha_112 : decode cX16_sha 112 = .ok (.bipush 32, 2) := dk_get daX16_sha 61 (r := (112, .bipush 32, 2)) rfl
theorem dX16_sha_114 : decode cX16_sha 114 = .ok (.if_icmp .ge 38, 3) := dk_get daX16_sha 62 (r := (114, .if_icmp .ge 38, 3)) rfl
theorem dX16_sha_117 : decode cX16_sha 117 = .ok (.aload 4, 2) := dk_get daX16_sha 63 (r := (117, .aload 4, 2)) rfl
theorem dX16_sha_119 : decode cX16_sha 119 = .ok (.iload 5, 2) := dk_get daX16_sha 64 (r := (119, .iload 5, 2)) rfl
theorem dX16_sha_121 : decode cX16_sha 121 = .ok (.iload 8, 2) := dk_get daX16_sha 65 (r := (121, .iload 8, 2)) rfl
theorem dX16_sha_123 : decode cX16_sha 123 = .ok (.iadd, 1) := dk_get daX16_sha 66 (r := (123, .iadd, 1)) rfl
theorem dX16_sha_124 : decode cX16_sha 124 = .ok (.aload_n 0, 1) := dk_get daX16_sha 67 (r := (124, .aload_n 0, 1)) rfl
theorem dX16_sha_125 : decode cX16_sha 125 = .ok (.getfield 19, 3) := dk_get daX16_sha 68 (r := (125, .getfield 19, 3)) rfl
theorem dX16_sha_128 : decode cX16_sha 128 = .ok (.iload 8, 2) := dk_get daX16_sha 69 (r := (128, .iload 8, 2)) rfl
theorem dX16_sha_130 : decode cX16_sha 130 = .ok (.iconst 4, 1) := dk_get daX16_sha 70 (r := (130, .iconst 4, 1)) rfl
theorem dX16_sha_131 : decode cX16_sha 131 = .ok (.idiv, 1) := dk_get daX16_sha 71 (r := (131, .idiv, 1)) rfl
theorem dX16_sha_132 : decode cX16_sha 132 = .ok (.iaload, 1) := dk_get daX16_sha 72 (r := (132, .iaload, 1)) rfl
theorem dX16_sha_133 : decode cX16_sha 133 = .ok (.bipush 24, 2) := dk_get daX16_sha 73 (r := (133, .bipush 24, 2)) rfl
theorem dX16_sha_135 : decode cX16_sha 135 = .ok (.bipush 8, 2) := dk_get daX16_sha 74 (r := (135, .bipush 8, 2)) rfl
theorem dX16_sha_137 : decode cX16_sha 137 = .ok (.iload 8, 2) := dk_get daX16_sha 75 (r := (137, .iload 8, 2)) rfl
theorem dX16_sha_139 : decode cX16_sha 139 = .ok (.iconst 4, 1) := dk_get daX16_sha 76 (r := (139, .iconst 4, 1)) rfl
theorem dX16_sha_140 : decode cX16_sha 140 = .ok (.irem, 1) := dk_get daX16_sha 77 (r := (140, .irem, 1)) rfl
theorem dX16_sha_141 : decode cX16_sha 141 = .ok (.imul, 1) := dk_get daX16_sha 78 (r := (141, .imul, 1)) rfl
theorem dX16_sha_142 : decode cX16_sha 142 = .ok (.isub, 1) := dk_get daX16_sha 79 (r := (142, .isub, 1)) rfl
theorem dX16_sha_143 : decode cX16_sha 143 = .ok (.iushr, 1) := dk_get daX16_sha 80 (r := (143, .iushr, 1)) rfl
theorem dX16_sha_144 : decode cX16_sha 144 = .ok (.i2b, 1) := dk_get daX16_sha 81 (r := (144, .i2b, 1)) rfl
theorem dX16_sha_145 : decode cX16_sha 145 = .ok (.bastore, 1) := dk_get daX16_sha 82 (r := (145, .bastore, 1)) rfl
theorem dX16_sha_146 : decode cX16_sha 146 = .ok (.iinc 8 1, 3) := dk_get daX16_sha 83 (r := (146, .iinc 8 1, 3)) rfl
theorem dX16_sha_149 : decode cX16_sha 149 = .ok (.goto (-39), 3) := dk_get daX16_sha 84 (r := (149, .goto (-39), 3)) rfl
theorem dX16_sha_152 : decode cX16_sha 152 = .ok (.return_, 1) := dk_get daX16_sha 85 (r := (152, .return_, 1)) rfl
abbrev mX16_shaBlock : ks_M := (RX16, cX16_shaBlock, 7, none, "shaBlock")
def drX16_shaBlock : List (Nat × Instr × Nat) := [(0, .iconst 0, 1), (1, .istore_n 3, 1), (2, .iload_n 3, 1), (3, .bipush 16, 2), (5, .if_icmp .ge 77, 3), (8, .aload_n 0, 1), (9, .getfield 38, 3), (12, .iload_n 3, 1), (13, .aload_n 1, 1), (14, .iload_n 2, 1), (15, .iconst 4, 1), (16, .iload_n 3, 1), (17, .imul, 1), (18, .iadd, 1), (19, .baload, 1), (20, .sipush 255, 3), (23, .iand, 1), (24, .bipush 24, 2), (26, .ishl, 1), (27, .aload_n 1, 1), (28, .iload_n 2, 1), (29, .iconst 4, 1), (30, .iload_n 3, 1), (31, .imul, 1), (32, .iadd, 1), (33, .iconst 1, 1), (34, .iadd, 1), (35, .baload, 1), (36, .sipush 255, 3), (39, .iand, 1), (40, .bipush 16, 2), (42, .ishl, 1), (43, .ior, 1), (44, .aload_n 1, 1), (45, .iload_n 2, 1), (46, .iconst 4, 1), (47, .iload_n 3, 1), (48, .imul, 1), (49, .iadd, 1), (50, .iconst 2, 1), (51, .iadd, 1), (52, .baload, 1), (53, .sipush 255, 3), (56, .iand, 1), (57, .bipush 8, 2), (59, .ishl, 1), (60, .ior, 1), (61, .aload_n 1, 1), (62, .iload_n 2, 1), (63, .iconst 4, 1), (64, .iload_n 3, 1), (65, .imul, 1), (66, .iadd, 1), (67, .iconst 3, 1), (68, .iadd, 1), (69, .baload, 1), (70, .sipush 255, 3), (73, .iand, 1), (74, .ior, 1), (75, .iastore, 1), (76, .iinc 3 1, 3), (79, .goto (-77), 3), (82, .bipush 16, 2), (84, .istore_n 3, 1), (85, .iload_n 3, 1), (86, .bipush 64, 2), (88, .if_icmp .ge 98, 3), (91, .aload_n 0, 1), (92, .getfield 38, 3), (95, .iload_n 3, 1), (96, .bipush 15, 2), (98, .isub, 1), (99, .iaload, 1), (100, .istore 4, 2), (102, .aload_n 0, 1), (103, .getfield 38, 3), (106, .iload_n 3, 1), (107, .iconst 2, 1), (108, .isub, 1), (109, .iaload, 1), (110, .istore 5, 2), (112, .aload_n 0, 1), (113, .getfield 38, 3), (116, .iload_n 3, 1), (117, .aload_n 0, 1), (118, .getfield 38, 3), (121, .iload_n 3, 1), (122, .bipush 16, 2), (124, .isub, 1), (125, .iaload, 1), (126, .iload 4, 2), (128, .bipush 25, 2), (130, .invokestatic 41, 3), (133, .iload 4, 2), (135, .bipush 14, 2), (137, .invokestatic 41, 3), (140, .ixor, 1), (141, .iload 4, 2), (143, .iconst 3, 1), (144, .iushr, 1), (145, .ixor, 1), (146, .iadd, 1), (147, .aload_n 0, 1), (148, .getfield 38, 3), (151, .iload_n 3, 1), (152, .bipush 7, 2), (154, .isub, 1), (155, .iaload, 1), (156, .iadd, 1), (157, .iload 5, 2), (159, .bipush 15, 2), (161, .invokestatic 41, 3), (164, .iload 5, 2), (166, .bipush 13, 2), (168, .invokestatic 41, 3), (171, .ixor, 1), (172, .iload 5, 2), (174, .bipush 10, 2), (176, .iushr, 1), (177, .ixor, 1), (178, .iadd, 1), (179, .iastore, 1), (180, .iinc 3 1, 3), (183, .goto (-98), 3), (186, .iconst 0, 1), (187, .istore_n 3, 1), (188, .iload_n 3, 1), (189, .bipush 8, 2), (191, .if_icmp .ge 21, 3), (194, .aload_n 0, 1), (195, .getfield 45, 3), (198, .iload_n 3, 1), (199, .aload_n 0, 1), (200, .getfield 19, 3), (203, .iload_n 3, 1), (204, .iaload, 1), (205, .iastore, 1), (206, .iinc 3 1, 3), (209, .goto (-21), 3), (212, .iconst 0, 1), (213, .istore_n 3, 1), (214, .iload_n 3, 1), (215, .bipush 64, 2), (217, .if_icmp .ge 231, 3), (220, .aload_n 0, 1), (221, .getfield 45, 3), (224, .bipush 7, 2), (226, .iaload, 1), (227, .aload_n 0, 1), (228, .getfield 45, 3), (231, .iconst 4, 1), (232, .iaload, 1), (233, .bipush 26, 2), (235, .invokestatic 41, 3), (238, .aload_n 0, 1), (239, .getfield 45, 3), (242, .iconst 4, 1), (243, .iaload, 1), (244, .bipush 21, 2), (246, .invokestatic 41, 3), (249, .ixor, 1), (250, .aload_n 0, 1), (251, .getfield 45, 3), (254, .iconst 4, 1), (255, .iaload, 1), (256, .bipush 7, 2), (258, .invokestatic 41, 3), (261, .ixor, 1), (262, .iadd, 1), (263, .aload_n 0, 1), (264, .getfield 45, 3), (267, .iconst 4, 1), (268, .iaload, 1), (269, .aload_n 0, 1), (270, .getfield 45, 3), (273, .iconst 5, 1), (274, .iaload, 1), (275, .iand, 1), (276, .aload_n 0, 1), (277, .getfield 45, 3), (280, .iconst 4, 1), (281, .iaload, 1), (282, .iconst (-1), 1), (283, .ixor, 1), (284, .aload_n 0, 1), (285, .getfield 45, 3), (288, .bipush 6, 2), (290, .iaload, 1), (291, .iand, 1), (292, .ixor, 1), (293, .iadd, 1), (294, .aload_n 0, 1), (295, .getfield 48, 3), (298, .iload_n 3, 1), (299, .iaload, 1), (300, .iadd, 1), (301, .aload_n 0, 1), (302, .getfield 38, 3), (305, .iload_n 3, 1), (306, .iaload, 1), (307, .iadd, 1), (308, .istore 4, 2), (310, .aload_n 0, 1), (311, .getfield 45, 3), (314, .iconst 0, 1), (315, .iaload, 1), (316, .bipush 30, 2), (318, .invokestatic 41, 3), (321, .aload_n 0, 1), (322, .getfield 45, 3), (325, .iconst 0, 1), (326, .iaload, 1), (327, .bipush 19, 2), (329, .invokestatic 41, 3), (332, .ixor, 1), (333, .aload_n 0, 1), (334, .getfield 45, 3), (337, .iconst 0, 1), (338, .iaload, 1), (339, .bipush 10, 2), (341, .invokestatic 41, 3), (344, .ixor, 1), (345, .aload_n 0, 1), (346, .getfield 45, 3), (349, .iconst 0, 1), (350, .iaload, 1), (351, .aload_n 0, 1), (352, .getfield 45, 3), (355, .iconst 1, 1), (356, .iaload, 1), (357, .iand, 1), (358, .aload_n 0, 1), (359, .getfield 45, 3), (362, .iconst 0, 1), (363, .iaload, 1), (364, .aload_n 0, 1), (365, .getfield 45, 3), (368, .iconst 2, 1), (369, .iaload, 1), (370, .iand, 1), (371, .ixor, 1), (372, .aload_n 0, 1), (373, .getfield 45, 3), (376, .iconst 1, 1), (377, .iaload, 1), (378, .aload_n 0, 1), (379, .getfield 45, 3), (382, .iconst 2, 1), (383, .iaload, 1), (384, .iand, 1), (385, .ixor, 1), (386, .iadd, 1), (387, .istore 5, 2), (389, .bipush 7, 2), (391, .istore 6, 2), (393, .iload 6, 2), (395, .ifCond .le 25, 3), (398, .aload_n 0, 1), (399, .getfield 45, 3), (402, .iload 6, 2), (404, .aload_n 0, 1), (405, .getfield 45, 3), (408, .iload 6, 2), (410, .iconst 1, 1), (411, .isub, 1), (412, .iaload, 1), (413, .iastore, 1), (414, .iinc 6 (-1), 3), (417, .goto (-24), 3), (420, .aload_n 0, 1), (421, .getfield 45, 3), (424, .iconst 4, 1), (425, .dup2, 1), (426, .iaload, 1), (427, .iload 4, 2), (429, .iadd, 1), (430, .iastore, 1), (431, .aload_n 0, 1), (432, .getfield 45, 3), (435, .iconst 0, 1), (436, .iload 4, 2), (438, .iload 5, 2), (440, .iadd, 1), (441, .iastore, 1), (442, .iinc 3 1, 3), (445, .goto (-231), 3), (448, .iconst 0, 1), (449, .istore_n 3, 1), (450, .iload_n 3, 1), (451, .bipush 8, 2), (453, .if_icmp .ge 24, 3), (456, .aload_n 0, 1), (457, .getfield 19, 3), (460, .iload_n 3, 1), (461, .dup2, 1), (462, .iaload, 1), (463, .aload_n 0, 1), (464, .getfield 45, 3), (467, .iload_n 3, 1), (468, .iaload, 1), (469, .iadd, 1), (470, .iastore, 1), (471, .iinc 3 1, 3), (474, .goto (-24), 3), (477, .return_, 1)]
set_option maxRecDepth 100000 in
theorem daX16_shaBlock : dk_all cX16_shaBlock drX16_shaBlock = true := by decide +kernel
theorem dX16_shaBlock_0 : decode cX16_shaBlock 0 = .ok (.iconst 0, 1) := dk_get daX16_shaBlock 0 (r := (0, .iconst 0, 1)) rfl
theorem dX16_shaBlock_1 : decode cX16_shaBlock 1 = .ok (.istore_n 3, 1) := dk_get daX16_shaBlock 1 (r := (1, .istore_n 3, 1)) rfl
theorem dX16_shaBlock_2 : decode cX16_shaBlock 2 = .ok (.iload_n 3, 1) := dk_get daX16_shaBlock 2 (r := (2, .iload_n 3, 1)) rfl
theorem dX16_shaBlock_3 : decode cX16_shaBlock 3 = .ok (.bipush 16, 2) := dk_get daX16_shaBlock 3 (r := (3, .bipush 16, 2)) rfl
theorem dX16_shaBlock_5 : decode cX16_shaBlock 5 = .ok (.if_icmp .ge 77, 3) := dk_get daX16_shaBlock 4 (r := (5, .if_icmp .ge 77, 3)) rfl
theorem dX16_shaBlock_8 : decode cX16_shaBlock 8 = .ok (.aload_n 0, 1) := dk_get daX16_shaBlock 5 (r := (8, .aload_n 0, 1)) rfl
theorem dX16_shaBlock_9 : decode cX16_shaBlock 9 = .ok (.getfield 38, 3) := dk_get daX16_shaBlock 6 (r := (9, .getfield 38, 3)) rfl
theorem dX16_shaBlock_12 : decode cX16_shaBlock 12 = .ok (.iload_n 3, 1) := dk_get daX16_shaBlock 7 (r := (12, .iload_n 3, 1)) rfl
theorem dX16_shaBlock_13 : decode cX16_shaBlock 13 = .ok (.aload_n 1, 1) := dk_get daX16_shaBlock 8 (r := (13, .aload_n 1, 1)) rfl
theorem dX16_shaBlock_14 : decode cX16_shaBlock 14 = .ok (.iload_n 2, 1) := dk_get daX16_shaBlock 9 (r := (14, .iload_n 2, 1)) rfl
theorem dX16_shaBlock_15 : decode cX16_shaBlock 15 = .ok (.iconst 4, 1) := dk_get daX16_shaBlock 10 (r := (15, .iconst 4, 1)) rfl
theorem dX16_shaBlock_16 : decode cX16_shaBlock 16 = .ok (.iload_n 3, 1) := dk_get daX16_shaBlock 11 (r := (16, .iload_n 3, 1)) rfl
theorem dX16_shaBlock_17 : decode cX16_shaBlock 17 = .ok (.imul, 1) := dk_get daX16_shaBlock 12 (r := (17, .imul, 1)) rfl
theorem dX16_shaBlock_18 : decode cX16_shaBlock 18 = .ok (.iadd, 1) := dk_get daX16_shaBlock 13 (r := (18, .iadd, 1)) rfl
theorem dX16_shaBlock_19 : decode cX16_shaBlock 19 = .ok (.baload, 1) := dk_get daX16_shaBlock 14 (r := (19, .baload, 1)) rfl
theorem dX16_shaBlock_20 : decode cX16_shaBlock 20 = .ok (.sipush 255, 3) := dk_get daX16_shaBlock 15 (r := (20, .sipush 255, 3)) rfl
theorem dX16_shaBlock_23 : decode cX16_shaBlock 23 = .ok (.iand, 1) := dk_get daX16_shaBlock 16 (r := (23, .iand, 1)) rfl
theorem dX16_shaBlock_24 : decode cX16_shaBlock 24 = .ok (.bipush 24, 2) := dk_get daX16_shaBlock 17 (r := (24, .bipush 24, 2)) rfl
theorem dX16_shaBlock_26 : decode cX16_shaBlock 26 = .ok (.ishl, 1) := dk_get daX16_shaBlock 18 (r := (26, .ishl, 1)) rfl
theorem dX16_shaBlock_27 : decode cX16_shaBlock 27 = .ok (.aload_n 1, 1) := dk_get daX16_shaBlock 19 (r := (27, .aload_n 1, 1)) rfl
theorem dX16_shaBlock_28 : decode cX16_shaBlock 28 = .ok (.iload_n 2, 1) := dk_get daX16_shaBlock 20 (r := (28, .iload_n 2, 1)) rfl
theorem dX16_shaBlock_29 : decode cX16_shaBlock 29 = .ok (.iconst 4, 1) := dk_get daX16_shaBlock 21 (r := (29, .iconst 4, 1)) rfl
theorem dX16_shaBlock_30 : decode cX16_shaBlock 30 = .ok (.iload_n 3, 1) := dk_get daX16_shaBlock 22 (r := (30, .iload_n 3, 1)) rfl
theorem dX16_shaBlock_31 : decode cX16_shaBlock 31 = .ok (.imul, 1) := dk_get daX16_shaBlock 23 (r := (31, .imul, 1)) rfl
theorem dX16_shaBlock_32 : decode cX16_shaBlock 32 = .ok (.iadd, 1) := dk_get daX16_shaBlock 24 (r := (32, .iadd, 1)) rfl
theorem dX16_shaBlock_33 : decode cX16_shaBlock 33 = .ok (.iconst 1, 1) := dk_get daX16_shaBlock 25 (r := (33, .iconst 1, 1)) rfl
theorem dX16_shaBlock_34 : decode cX16_shaBlock 34 = .ok (.iadd, 1) := dk_get daX16_shaBlock 26 (r := (34, .iadd, 1)) rfl
theorem dX16_shaBlock_35 : decode cX16_shaBlock 35 = .ok (.baload, 1) := dk_get daX16_shaBlock 27 (r := (35, .baload, 1)) rfl
theorem dX16_shaBlock_36 : decode cX16_shaBlock 36 = .ok (.sipush 255, 3) := dk_get daX16_shaBlock 28 (r := (36, .sipush 255, 3)) rfl
theorem dX16_shaBlock_39 : decode cX16_shaBlock 39 = .ok (.iand, 1) := dk_get daX16_shaBlock 29 (r := (39, .iand, 1)) rfl
theorem dX16_shaBlock_40 : decode cX16_shaBlock 40 = .ok (.bipush 16, 2) := dk_get daX16_shaBlock 30 (r := (40, .bipush 16, 2)) rfl
theorem dX16_shaBlock_42 : decode cX16_shaBlock 42 = .ok (.ishl, 1) := dk_get daX16_shaBlock 31 (r := (42, .ishl, 1)) rfl
theorem dX16_shaBlock_43 : decode cX16_shaBlock 43 = .ok (.ior, 1) := dk_get daX16_shaBlock 32 (r := (43, .ior, 1)) rfl
theorem dX16_shaBlock_44 : decode cX16_shaBlock 44 = .ok (.aload_n 1, 1) := dk_get daX16_shaBlock 33 (r := (44, .aload_n 1, 1)) rfl
theorem dX16_shaBlock_45 : decode cX16_shaBlock 45 = .ok (.iload_n 2, 1) := dk_get daX16_shaBlock 34 (r := (45, .iload_n 2, 1)) rfl
theorem dX16_shaBlock_46 : decode cX16_shaBlock 46 = .ok (.iconst 4, 1) := dk_get daX16_shaBlock 35 (r := (46, .iconst 4, 1)) rfl
theorem dX16_shaBlock_47 : decode cX16_shaBlock 47 = .ok (.iload_n 3, 1) := dk_get daX16_shaBlock 36 (r := (47, .iload_n 3, 1)) rfl
theorem dX16_shaBlock_48 : decode cX16_shaBlock 48 = .ok (.imul, 1) := dk_get daX16_shaBlock 37 (r := (48, .imul, 1)) rfl
theorem dX16_shaBlock_49 : decode cX16_shaBlock 49 = .ok (.iadd, 1) := dk_get daX16_shaBlock 38 (r := (49, .iadd, 1)) rfl
theorem dX16_shaBlock_50 : decode cX16_shaBlock 50 = .ok (.iconst 2, 1) := dk_get daX16_shaBlock 39 (r := (50, .iconst 2, 1)) rfl
theorem dX16_shaBlock_51 : decode cX16_shaBlock 51 = .ok (.iadd, 1) := dk_get daX16_shaBlock 40 (r := (51, .iadd, 1)) rfl
theorem dX16_shaBlock_52 : decode cX16_shaBlock 52 = .ok (.baload, 1) := dk_get daX16_shaBlock 41 (r := (52, .baload, 1)) rfl
theorem dX16_shaBlock_53 : decode cX16_shaBlock 53 = .ok (.sipush 255, 3) := dk_get daX16_shaBlock 42 (r := (53, .sipush 255, 3)) rfl
theorem dX16_shaBlock_56 : decode cX16_shaBlock 56 = .ok (.iand, 1) := dk_get daX16_shaBlock 43 (r := (56, .iand, 1)) rfl
theorem dX16_shaBlock_57 : decode cX16_shaBlock 57 = .ok (.bipush 8, 2) := dk_get daX16_shaBlock 44 (r := (57, .bipush 8, 2)) rfl
theorem dX16_shaBlock_59 : decode cX16_shaBlock 59 = .ok (.ishl, 1) := dk_get daX16_shaBlock 45 (r := (59, .ishl, 1)) rfl
theorem dX16_shaBlock_60 : decode cX16_shaBlock 60 = .ok (.ior, 1) := dk_get daX16_shaBlock 46 (r := (60, .ior, 1)) rfl
theorem dX16_shaBlock_61 : decode cX16_shaBlock 61 = .ok (.aload_n 1, 1) := dk_get daX16_shaBlock 47 (r := (61, .aload_n 1, 1)) rfl
theorem dX16_shaBlock_62 : decode cX16_shaBlock 62 = .ok (.iload_n 2, 1) := dk_get daX16_shaBlock 48 (r := (62, .iload_n 2, 1)) rfl
theorem dX16_shaBlock_63 : decode cX16_shaBlock 63 = .ok (.iconst 4, 1) := dk_get daX16_shaBlock 49 (r := (63, .iconst 4, 1)) rfl
theorem dX16_shaBlock_64 : decode cX16_shaBlock 64 = .ok (.iload_n 3, 1) := dk_get daX16_shaBlock 50 (r := (64, .iload_n 3, 1)) rfl
theorem dX16_shaBlock_65 : decode cX16_shaBlock 65 = .ok (.imul, 1) := dk_get daX16_shaBlock 51 (r := (65, .imul, 1)) rfl
theorem dX16_shaBlock_66 : decode cX16_shaBlock 66 = .ok (.iadd, 1) := dk_get daX16_shaBlock 52 (r := (66, .iadd, 1)) rfl
theorem dX16_shaBlock_67 : decode cX16_shaBlock 67 = .ok (.iconst 3, 1) := dk_get daX16_shaBlock 53 (r := (67, .iconst 3, 1)) rfl
theorem dX16_shaBlock_68 : decode cX16_shaBlock 68 = .ok (.iadd, 1) := dk_get daX16_shaBlock 54 (r := (68, .iadd, 1)) rfl
theorem dX16_shaBlock_69 : decode cX16_shaBlock 69 = .ok (.baload, 1) := dk_get daX16_shaBlock 55 (r := (69, .baload, 1)) rfl
theorem dX16_shaBlock_70 : decode cX16_shaBlock 70 = .ok (.sipush 255, 3) := dk_get daX16_shaBlock 56 (r := (70, .sipush 255, 3)) rfl
theorem dX16_shaBlock_73 : decode cX16_shaBlock 73 = .ok (.iand, 1) := dk_get daX16_shaBlock 57 (r := (73, .iand, 1)) rfl
theorem dX16_shaBlock_74 : decode cX16_shaBlock 74 = .ok (.ior, 1) := dk_get daX16_shaBlock 58 (r := (74, .ior, 1)) rfl
theorem dX16_shaBlock_75 : decode cX16_shaBlock 75 = .ok (.iastore, 1) := dk_get daX16_shaBlock 59 (r := (75, .iastore, 1)) rfl
theorem dX16_shaBlock_76 : decode cX16_shaBlock 76 = .ok (.iinc 3 1, 3) := dk_get daX16_shaBlock 60 (r := (76, .iinc 3 1, 3)) rfl
theorem dX16_shaBlock_79 : decode cX16_shaBlock 79 = .ok (.goto (-77), 3) := dk_get daX16_shaBlock 61 (r := (79, .goto (-77), 3)) rfl
theorem dX16_shaBlock_82 : decode cX16_shaBlock 82 = .ok (.bipush 16, 2) := dk_get daX16_shaBlock 62 (r := (82, .bipush 16, 2)) rfl
theorem dX16_shaBlock_84 : decode cX16_shaBlock 84 = .ok (.istore_n 3, 1) := dk_get daX16_shaBlock 63 (r := (84, .istore_n 3, 1)) rfl
theorem dX16_shaBlock_85 : decode cX16_shaBlock 85 = .ok (.iload_n 3, 1) := dk_get daX16_shaBlock 64 (r := (85, .iload_n 3, 1)) rfl
theorem dX16_shaBlock_86 : decode cX16_shaBlock 86 = .ok (.bipush 64, 2) := dk_get daX16_shaBlock 65 (r := (86, .bipush 64, 2)) rfl
theorem dX16_shaBlock_88 : decode cX16_shaBlock 88 = .ok (.if_icmp .ge 98, 3) := dk_get daX16_shaBlock 66 (r := (88, .if_icmp .ge 98, 3)) rfl
theorem dX16_shaBlock_91 : decode cX16_shaBlock 91 = .ok (.aload_n 0, 1) := dk_get daX16_shaBlock 67 (r := (91, .aload_n 0, 1)) rfl
theorem dX16_shaBlock_92 : decode cX16_shaBlock 92 = .ok (.getfield 38, 3) := dk_get daX16_shaBlock 68 (r := (92, .getfield 38, 3)) rfl
theorem dX16_shaBlock_95 : decode cX16_shaBlock 95 = .ok (.iload_n 3, 1) := dk_get daX16_shaBlock 69 (r := (95, .iload_n 3, 1)) rfl
theorem dX16_shaBlock_96 : decode cX16_shaBlock 96 = .ok (.bipush 15, 2) := dk_get daX16_shaBlock 70 (r := (96, .bipush 15, 2)) rfl
theorem dX16_shaBlock_98 : decode cX16_shaBlock 98 = .ok (.isub, 1) := dk_get daX16_shaBlock 71 (r := (98, .isub, 1)) rfl
theorem dX16_shaBlock_99 : decode cX16_shaBlock 99 = .ok (.iaload, 1) := dk_get daX16_shaBlock 72 (r := (99, .iaload, 1)) rfl
theorem dX16_shaBlock_100 : decode cX16_shaBlock 100 = .ok (.istore 4, 2) := dk_get daX16_shaBlock 73 (r := (100, .istore 4, 2)) rfl
theorem dX16_shaBlock_102 : decode cX16_shaBlock 102 = .ok (.aload_n 0, 1) := dk_get daX16_shaBlock 74 (r := (102, .aload_n 0, 1)) rfl
theorem dX16_shaBlock_103 : decode cX16_shaBlock 103 = .ok (.getfield 38, 3) := dk_get daX16_shaBlock 75 (r := (103, .getfield 38, 3)) rfl
theorem dX16_shaBlock_106 : decode cX16_shaBlock 106 = .ok (.iload_n 3, 1) := dk_get daX16_shaBlock 76 (r := (106, .iload_n 3, 1)) rfl
theorem dX16_shaBlock_107 : decode cX16_shaBlock 107 = .ok (.iconst 2, 1) := dk_get daX16_shaBlock 77 (r := (107, .iconst 2, 1)) rfl
theorem dX16_shaBlock_108 : decode cX16_shaBlock 108 = .ok (.isub, 1) := dk_get daX16_shaBlock 78 (r := (108, .isub, 1)) rfl
theorem dX16_shaBlock_109 : decode cX16_shaBlock 109 = .ok (.iaload, 1) := dk_get daX16_shaBlock 79 (r := (109, .iaload, 1)) rfl
theorem dX16_shaBlock_110 : decode cX16_shaBlock 110 = .ok (.istore 5, 2) := dk_get daX16_shaBlock 80 (r := (110, .istore 5, 2)) rfl
theorem dX16_shaBlock_112 : decode cX16_shaBlock 112 = .ok (.aload_n 0, 1) := dk_get daX16_shaBlock 81 (r := (112, .aload_n 0, 1)) rfl
theorem dX16_shaBlock_113 : decode cX16_shaBlock 113 = .ok (.getfield 38, 3) := dk_get daX16_shaBlock 82 (r := (113, .getfield 38, 3)) rfl
theorem dX16_shaBlock_116 : decode cX16_shaBlock 116 = .ok (.iload_n 3, 1) := dk_get daX16_shaBlock 83 (r := (116, .iload_n 3, 1)) rfl
theorem dX16_shaBlock_117 : decode cX16_shaBlock 117 = .ok (.aload_n 0, 1) := dk_get daX16_shaBlock 84 (r := (117, .aload_n 0, 1)) rfl
theorem dX16_shaBlock_118 : decode cX16_shaBlock 118 = .ok (.getfield 38, 3) := dk_get daX16_shaBlock 85 (r := (118, .getfield 38, 3)) rfl
theorem dX16_shaBlock_121 : decode cX16_shaBlock 121 = .ok (.iload_n 3, 1) := dk_get daX16_shaBlock 86 (r := (121, .iload_n 3, 1)) rfl
theorem dX16_shaBlock_122 : decode cX16_shaBlock 122 = .ok (.bipush 16, 2) := dk_get daX16_shaBlock 87 (r := (122, .bipush 16, 2)) rfl
theorem dX16_shaBlock_124 : decode cX16_shaBlock 124 = .ok (.isub, 1) := dk_get daX16_shaBlock 88 (r := (124, .isub, 1)) rfl
theorem dX16_shaBlock_125 : decode cX16_shaBlock 125 = .ok (.iaload, 1) := dk_get daX16_shaBlock 89 (r := (125, .iaload, 1)) rfl
theorem dX16_shaBlock_126 : decode cX16_shaBlock 126 = .ok (.iload 4, 2) := dk_get daX16_shaBlock 90 (r := (126, .iload 4, 2)) rfl
theorem dX16_shaBlock_128 : decode cX16_shaBlock 128 = .ok (.bipush 25, 2) := dk_get daX16_shaBlock 91 (r := (128, .bipush 25, 2)) rfl
theorem dX16_shaBlock_130 : decode cX16_shaBlock 130 = .ok (.invokestatic 41, 3) := dk_get daX16_shaBlock 92 (r := (130, .invokestatic 41, 3)) rfl
theorem dX16_shaBlock_133 : decode cX16_shaBlock 133 = .ok (.iload 4, 2) := dk_get daX16_shaBlock 93 (r := (133, .iload 4, 2)) rfl
theorem dX16_shaBlock_135 : decode cX16_shaBlock 135 = .ok (.bipush 14, 2) := dk_get daX16_shaBlock 94 (r := (135, .bipush 14, 2)) rfl
theorem dX16_shaBlock_137 : decode cX16_shaBlock 137 = .ok (.invokestatic 41, 3) := dk_get daX16_shaBlock 95 (r := (137, .invokestatic 41, 3)) rfl
theorem dX16_shaBlock_140 : decode cX16_shaBlock 140 = .ok (.ixor, 1) := dk_get daX16_shaBlock 96 (r := (140, .ixor, 1)) rfl
theorem dX16_shaBlock_141 : decode cX16_shaBlock 141 = .ok (.iload 4, 2) := dk_get daX16_shaBlock 97 (r := (141, .iload 4, 2)) rfl
theorem dX16_shaBlock_143 : decode cX16_shaBlock 143 = .ok (.iconst 3, 1) := dk_get daX16_shaBlock 98 (r := (143, .iconst 3, 1)) rfl
theorem dX16_shaBlock_144 : decode cX16_shaBlock 144 = .ok (.iushr, 1) := dk_get daX16_shaBlock 99 (r := (144, .iushr, 1)) rfl
theorem dX16_shaBlock_145 : decode cX16_shaBlock 145 = .ok (.ixor, 1) := dk_get daX16_shaBlock 100 (r := (145, .ixor, 1)) rfl
theorem dX16_shaBlock_146 : decode cX16_shaBlock 146 = .ok (.iadd, 1) := dk_get daX16_shaBlock 101 (r := (146, .iadd, 1)) rfl
theorem dX16_shaBlock_147 : decode cX16_shaBlock 147 = .ok (.aload_n 0, 1) := dk_get daX16_shaBlock 102 (r := (147, .aload_n 0, 1)) rfl
theorem dX16_shaBlock_148 : decode cX16_shaBlock 148 = .ok (.getfield 38, 3) := dk_get daX16_shaBlock 103 (r := (148, .getfield 38, 3)) rfl
theorem dX16_shaBlock_151 : decode cX16_shaBlock 151 = .ok (.iload_n 3, 1) := dk_get daX16_shaBlock 104 (r := (151, .iload_n 3, 1)) rfl
theorem dX16_shaBlock_152 : decode cX16_shaBlock 152 = .ok (.bipush 7, 2) := dk_get daX16_shaBlock 105 (r := (152, .bipush 7, 2)) rfl
theorem dX16_shaBlock_154 : decode cX16_shaBlock 154 = .ok (.isub, 1) := dk_get daX16_shaBlock 106 (r := (154, .isub, 1)) rfl
theorem dX16_shaBlock_155 : decode cX16_shaBlock 155 = .ok (.iaload, 1) := dk_get daX16_shaBlock 107 (r := (155, .iaload, 1)) rfl
theorem dX16_shaBlock_156 : decode cX16_shaBlock 156 = .ok (.iadd, 1) := dk_get daX16_shaBlock 108 (r := (156, .iadd, 1)) rfl
theorem dX16_shaBlock_157 : decode cX16_shaBlock 157 = .ok (.iload 5, 2) := dk_get daX16_shaBlock 109 (r := (157, .iload 5, 2)) rfl
theorem dX16_shaBlock_159 : decode cX16_shaBlock 159 = .ok (.bipush 15, 2) := dk_get daX16_shaBlock 110 (r := (159, .bipush 15, 2)) rfl
theorem dX16_shaBlock_161 : decode cX16_shaBlock 161 = .ok (.invokestatic 41, 3) := dk_get daX16_shaBlock 111 (r := (161, .invokestatic 41, 3)) rfl
theorem dX16_shaBlock_164 : decode cX16_shaBlock 164 = .ok (.iload 5, 2) := dk_get daX16_shaBlock 112 (r := (164, .iload 5, 2)) rfl
theorem dX16_shaBlock_166 : decode cX16_shaBlock 166 = .ok (.bipush 13, 2) := dk_get daX16_shaBlock 113 (r := (166, .bipush 13, 2)) rfl
theorem dX16_shaBlock_168 : decode cX16_shaBlock 168 = .ok (.invokestatic 41, 3) := dk_get daX16_shaBlock 114 (r := (168, .invokestatic 41, 3)) rfl
theorem dX16_shaBlock_171 : decode cX16_shaBlock 171 = .ok (.ixor, 1) := dk_get daX16_shaBlock 115 (r := (171, .ixor, 1)) rfl
theorem dX16_shaBlock_172 : decode cX16_shaBlock 172 = .ok (.iload 5, 2) := dk_get daX16_shaBlock 116 (r := (172, .iload 5, 2)) rfl
theorem dX16_shaBlock_174 : decode cX16_shaBlock 174 = .ok (.bipush 10, 2) := dk_get daX16_shaBlock 117 (r := (174, .bipush 10, 2)) rfl
theorem dX16_shaBlock_176 : decode cX16_shaBlock 176 = .ok (.iushr, 1) := dk_get daX16_shaBlock 118 (r := (176, .iushr, 1)) rfl
theorem dX16_shaBlock_177 : decode cX16_shaBlock 177 = .ok (.ixor, 1) := dk_get daX16_shaBlock 119 (r := (177, .ixor, 1)) rfl
theorem dX16_shaBlock_178 : decode cX16_shaBlock 178 = .ok (.iadd, 1) := dk_get daX16_shaBlock 120 (r := (178, .iadd, 1)) rfl
theorem dX16_shaBlock_179 : decode cX16_shaBlock 179 = .ok (.iastore, 1) := dk_get daX16_shaBlock 121 (r := (179, .iastore, 1)) rfl
theorem dX16_shaBlock_180 : decode cX16_shaBlock 180 = .ok (.iinc 3 1, 3) := dk_get daX16_shaBlock 122 (r := (180, .iinc 3 1, 3)) rfl
theorem dX16_shaBlock_183 : decode cX16_shaBlock 183 = .ok (.goto (-98), 3) := dk_get daX16_shaBlock 123 (r := (183, .goto (-98), 3)) rfl
theorem dX16_shaBlock_186 : decode cX16_shaBlock 186 = .ok (.iconst 0, 1) := dk_get daX16_shaBlock 124 (r := (186, .iconst 0, 1)) rfl
theorem dX16_shaBlock_187 : decode cX16_shaBlock 187 = .ok (.istore_n 3, 1) := dk_get daX16_shaBlock 125 (r := (187, .istore_n 3, 1)) rfl
theorem dX16_shaBlock_188 : decode cX16_shaBlock 188 = .ok (.iload_n 3, 1) := dk_get daX16_shaBlock 126 (r := (188, .iload_n 3, 1)) rfl
theorem dX16_shaBlock_189 : decode cX16_shaBlock 189 = .ok (.bipush 8, 2) := dk_get daX16_shaBlock 127 (r := (189, .bipush 8, 2)) rfl
theorem dX16_shaBlock_191 : decode cX16_shaBlock 191 = .ok (.if_icmp .ge 21, 3) := dk_get daX16_shaBlock 128 (r := (191, .if_icmp .ge 21, 3)) rfl
theorem dX16_shaBlock_194 : decode cX16_shaBlock 194 = .ok (.aload_n 0, 1) := dk_get daX16_shaBlock 129 (r := (194, .aload_n 0, 1)) rfl
theorem dX16_shaBlock_195 : decode cX16_shaBlock 195 = .ok (.getfield 45, 3) := dk_get daX16_shaBlock 130 (r := (195, .getfield 45, 3)) rfl
theorem dX16_shaBlock_198 : decode cX16_shaBlock 198 = .ok (.iload_n 3, 1) := dk_get daX16_shaBlock 131 (r := (198, .iload_n 3, 1)) rfl
theorem dX16_shaBlock_199 : decode cX16_shaBlock 199 = .ok (.aload_n 0, 1) := dk_get daX16_shaBlock 132 (r := (199, .aload_n 0, 1)) rfl
theorem dX16_shaBlock_200 : decode cX16_shaBlock 200 = .ok (.getfield 19, 3) := dk_get daX16_shaBlock 133 (r := (200, .getfield 19, 3)) rfl
theorem dX16_shaBlock_203 : decode cX16_shaBlock 203 = .ok (.iload_n 3, 1) := dk_get daX16_shaBlock 134 (r := (203, .iload_n 3, 1)) rfl
theorem dX16_shaBlock_204 : decode cX16_shaBlock 204 = .ok (.iaload, 1) := dk_get daX16_shaBlock 135 (r := (204, .iaload, 1)) rfl
theorem dX16_shaBlock_205 : decode cX16_shaBlock 205 = .ok (.iastore, 1) := dk_get daX16_shaBlock 136 (r := (205, .iastore, 1)) rfl
theorem dX16_shaBlock_206 : decode cX16_shaBlock 206 = .ok (.iinc 3 1, 3) := dk_get daX16_shaBlock 137 (r := (206, .iinc 3 1, 3)) rfl
theorem dX16_shaBlock_209 : decode cX16_shaBlock 209 = .ok (.goto (-21), 3) := dk_get daX16_shaBlock 138 (r := (209, .goto (-21), 3)) rfl
theorem dX16_shaBlock_212 : decode cX16_shaBlock 212 = .ok (.iconst 0, 1) := dk_get daX16_shaBlock 139 (r := (212, .iconst 0, 1)) rfl
theorem dX16_shaBlock_213 : decode cX16_shaBlock 213 = .ok (.istore_n 3, 1) := dk_get daX16_shaBlock 140 (r := (213, .istore_n 3, 1)) rfl
theorem dX16_shaBlock_214 : decode cX16_shaBlock 214 = .ok (.iload_n 3, 1) := dk_get daX16_shaBlock 141 (r := (214, .iload_n 3, 1)) rfl
theorem dX16_shaBlock_215 : decode cX16_shaBlock 215 = .ok (.bipush 64, 2) := dk_get daX16_shaBlock 142 (r := (215, .bipush 64, 2)) rfl
theorem dX16_shaBlock_217 : decode cX16_shaBlock 217 = .ok (.if_icmp .ge 231, 3) := dk_get daX16_shaBlock 143 (r := (217, .if_icmp .ge 231, 3)) rfl
theorem dX16_shaBlock_220 : decode cX16_shaBlock 220 = .ok (.aload_n 0, 1) := dk_get daX16_shaBlock 144 (r := (220, .aload_n 0, 1)) rfl
theorem dX16_shaBlock_221 : decode cX16_shaBlock 221 = .ok (.getfield 45, 3) := dk_get daX16_shaBlock 145 (r := (221, .getfield 45, 3)) rfl
theorem dX16_shaBlock_224 : decode cX16_shaBlock 224 = .ok (.bipush 7, 2) := dk_get daX16_shaBlock 146 (r := (224, .bipush 7, 2)) rfl
theorem dX16_shaBlock_226 : decode cX16_shaBlock 226 = .ok (.iaload, 1) := dk_get daX16_shaBlock 147 (r := (226, .iaload, 1)) rfl
theorem dX16_shaBlock_227 : decode cX16_shaBlock 227 = .ok (.aload_n 0, 1) := dk_get daX16_shaBlock 148 (r := (227, .aload_n 0, 1)) rfl
theorem dX16_shaBlock_228 : decode cX16_shaBlock 228 = .ok (.getfield 45, 3) := dk_get daX16_shaBlock 149 (r := (228, .getfield 45, 3)) rfl
theorem dX16_shaBlock_231 : decode cX16_shaBlock 231 = .ok (.iconst 4, 1) := dk_get daX16_shaBlock 150 (r := (231, .iconst 4, 1)) rfl
theorem dX16_shaBlock_232 : decode cX16_shaBlock 232 = .ok (.iaload, 1) := dk_get daX16_shaBlock 151 (r := (232, .iaload, 1)) rfl
theorem dX16_shaBlock_233 : decode cX16_shaBlock 233 = .ok (.bipush 26, 2) := dk_get daX16_shaBlock 152 (r := (233, .bipush 26, 2)) rfl
theorem dX16_shaBlock_235 : decode cX16_shaBlock 235 = .ok (.invokestatic 41, 3) := dk_get daX16_shaBlock 153 (r := (235, .invokestatic 41, 3)) rfl
theorem dX16_shaBlock_238 : decode cX16_shaBlock 238 = .ok (.aload_n 0, 1) := dk_get daX16_shaBlock 154 (r := (238, .aload_n 0, 1)) rfl
theorem dX16_shaBlock_239 : decode cX16_shaBlock 239 = .ok (.getfield 45, 3) := dk_get daX16_shaBlock 155 (r := (239, .getfield 45, 3)) rfl
theorem dX16_shaBlock_242 : decode cX16_shaBlock 242 = .ok (.iconst 4, 1) := dk_get daX16_shaBlock 156 (r := (242, .iconst 4, 1)) rfl
theorem dX16_shaBlock_243 : decode cX16_shaBlock 243 = .ok (.iaload, 1) := dk_get daX16_shaBlock 157 (r := (243, .iaload, 1)) rfl
theorem dX16_shaBlock_244 : decode cX16_shaBlock 244 = .ok (.bipush 21, 2) := dk_get daX16_shaBlock 158 (r := (244, .bipush 21, 2)) rfl
theorem dX16_shaBlock_246 : decode cX16_shaBlock 246 = .ok (.invokestatic 41, 3) := dk_get daX16_shaBlock 159 (r := (246, .invokestatic 41, 3)) rfl
theorem dX16_shaBlock_249 : decode cX16_shaBlock 249 = .ok (.ixor, 1) := dk_get daX16_shaBlock 160 (r := (249, .ixor, 1)) rfl
theorem dX16_shaBlock_250 : decode cX16_shaBlock 250 = .ok (.aload_n 0, 1) := dk_get daX16_shaBlock 161 (r := (250, .aload_n 0, 1)) rfl
theorem dX16_shaBlock_251 : decode cX16_shaBlock 251 = .ok (.getfield 45, 3) := dk_get daX16_shaBlock 162 (r := (251, .getfield 45, 3)) rfl
theorem dX16_shaBlock_254 : decode cX16_shaBlock 254 = .ok (.iconst 4, 1) := dk_get daX16_shaBlock 163 (r := (254, .iconst 4, 1)) rfl
theorem dX16_shaBlock_255 : decode cX16_shaBlock 255 = .ok (.iaload, 1) := dk_get daX16_shaBlock 164 (r := (255, .iaload, 1)) rfl
theorem dX16_shaBlock_256 : decode cX16_shaBlock 256 = .ok (.bipush 7, 2) := dk_get daX16_shaBlock 165 (r := (256, .bipush 7, 2)) rfl
theorem dX16_shaBlock_258 : decode cX16_shaBlock 258 = .ok (.invokestatic 41, 3) := dk_get daX16_shaBlock 166 (r := (258, .invokestatic 41, 3)) rfl
theorem dX16_shaBlock_261 : decode cX16_shaBlock 261 = .ok (.ixor, 1) := dk_get daX16_shaBlock 167 (r := (261, .ixor, 1)) rfl
theorem dX16_shaBlock_262 : decode cX16_shaBlock 262 = .ok (.iadd, 1) := dk_get daX16_shaBlock 168 (r := (262, .iadd, 1)) rfl
theorem dX16_shaBlock_263 : decode cX16_shaBlock 263 = .ok (.aload_n 0, 1) := dk_get daX16_shaBlock 169 (r := (263, .aload_n 0, 1)) rfl
theorem dX16_shaBlock_264 : decode cX16_shaBlock 264 = .ok (.getfield 45, 3) := dk_get daX16_shaBlock 170 (r := (264, .getfield 45, 3)) rfl
theorem dX16_shaBlock_267 : decode cX16_shaBlock 267 = .ok (.iconst 4, 1) := dk_get daX16_shaBlock 171 (r := (267, .iconst 4, 1)) rfl
theorem dX16_shaBlock_268 : decode cX16_shaBlock 268 = .ok (.iaload, 1) := dk_get daX16_shaBlock 172 (r := (268, .iaload, 1)) rfl
theorem dX16_shaBlock_269 : decode cX16_shaBlock 269 = .ok (.aload_n 0, 1) := dk_get daX16_shaBlock 173 (r := (269, .aload_n 0, 1)) rfl
theorem dX16_shaBlock_270 : decode cX16_shaBlock 270 = .ok (.getfield 45, 3) := dk_get daX16_shaBlock 174 (r := (270, .getfield 45, 3)) rfl
theorem dX16_shaBlock_273 : decode cX16_shaBlock 273 = .ok (.iconst 5, 1) := dk_get daX16_shaBlock 175 (r := (273, .iconst 5, 1)) rfl
theorem dX16_shaBlock_274 : decode cX16_shaBlock 274 = .ok (.iaload, 1) := dk_get daX16_shaBlock 176 (r := (274, .iaload, 1)) rfl
theorem dX16_shaBlock_275 : decode cX16_shaBlock 275 = .ok (.iand, 1) := dk_get daX16_shaBlock 177 (r := (275, .iand, 1)) rfl
theorem dX16_shaBlock_276 : decode cX16_shaBlock 276 = .ok (.aload_n 0, 1) := dk_get daX16_shaBlock 178 (r := (276, .aload_n 0, 1)) rfl
theorem dX16_shaBlock_277 : decode cX16_shaBlock 277 = .ok (.getfield 45, 3) := dk_get daX16_shaBlock 179 (r := (277, .getfield 45, 3)) rfl
theorem dX16_shaBlock_280 : decode cX16_shaBlock 280 = .ok (.iconst 4, 1) := dk_get daX16_shaBlock 180 (r := (280, .iconst 4, 1)) rfl
theorem dX16_shaBlock_281 : decode cX16_shaBlock 281 = .ok (.iaload, 1) := dk_get daX16_shaBlock 181 (r := (281, .iaload, 1)) rfl
theorem dX16_shaBlock_282 : decode cX16_shaBlock 282 = .ok (.iconst (-1), 1) := dk_get daX16_shaBlock 182 (r := (282, .iconst (-1), 1)) rfl
theorem dX16_shaBlock_283 : decode cX16_shaBlock 283 = .ok (.ixor, 1) := dk_get daX16_shaBlock 183 (r := (283, .ixor, 1)) rfl
theorem dX16_shaBlock_284 : decode cX16_shaBlock 284 = .ok (.aload_n 0, 1) := dk_get daX16_shaBlock 184 (r := (284, .aload_n 0, 1)) rfl
theorem dX16_shaBlock_285 : decode cX16_shaBlock 285 = .ok (.getfield 45, 3) := dk_get daX16_shaBlock 185 (r := (285, .getfield 45, 3)) rfl
theorem dX16_shaBlock_288 : decode cX16_shaBlock 288 = .ok (.bipush 6, 2) := dk_get daX16_shaBlock 186 (r := (288, .bipush 6, 2)) rfl
theorem dX16_shaBlock_290 : decode cX16_shaBlock 290 = .ok (.iaload, 1) := dk_get daX16_shaBlock 187 (r := (290, .iaload, 1)) rfl
theorem dX16_shaBlock_291 : decode cX16_shaBlock 291 = .ok (.iand, 1) := dk_get daX16_shaBlock 188 (r := (291, .iand, 1)) rfl
theorem dX16_shaBlock_292 : decode cX16_shaBlock 292 = .ok (.ixor, 1) := dk_get daX16_shaBlock 189 (r := (292, .ixor, 1)) rfl
theorem dX16_shaBlock_293 : decode cX16_shaBlock 293 = .ok (.iadd, 1) := dk_get daX16_shaBlock 190 (r := (293, .iadd, 1)) rfl
theorem dX16_shaBlock_294 : decode cX16_shaBlock 294 = .ok (.aload_n 0, 1) := dk_get daX16_shaBlock 191 (r := (294, .aload_n 0, 1)) rfl
theorem dX16_shaBlock_295 : decode cX16_shaBlock 295 = .ok (.getfield 48, 3) := dk_get daX16_shaBlock 192 (r := (295, .getfield 48, 3)) rfl
theorem dX16_shaBlock_298 : decode cX16_shaBlock 298 = .ok (.iload_n 3, 1) := dk_get daX16_shaBlock 193 (r := (298, .iload_n 3, 1)) rfl
theorem dX16_shaBlock_299 : decode cX16_shaBlock 299 = .ok (.iaload, 1) := dk_get daX16_shaBlock 194 (r := (299, .iaload, 1)) rfl
theorem dX16_shaBlock_300 : decode cX16_shaBlock 300 = .ok (.iadd, 1) := dk_get daX16_shaBlock 195 (r := (300, .iadd, 1)) rfl
theorem dX16_shaBlock_301 : decode cX16_shaBlock 301 = .ok (.aload_n 0, 1) := dk_get daX16_shaBlock 196 (r := (301, .aload_n 0, 1)) rfl
theorem dX16_shaBlock_302 : decode cX16_shaBlock 302 = .ok (.getfield 38, 3) := dk_get daX16_shaBlock 197 (r := (302, .getfield 38, 3)) rfl
theorem dX16_shaBlock_305 : decode cX16_shaBlock 305 = .ok (.iload_n 3, 1) := dk_get daX16_shaBlock 198 (r := (305, .iload_n 3, 1)) rfl
theorem dX16_shaBlock_306 : decode cX16_shaBlock 306 = .ok (.iaload, 1) := dk_get daX16_shaBlock 199 (r := (306, .iaload, 1)) rfl
theorem dX16_shaBlock_307 : decode cX16_shaBlock 307 = .ok (.iadd, 1) := dk_get daX16_shaBlock 200 (r := (307, .iadd, 1)) rfl
theorem dX16_shaBlock_308 : decode cX16_shaBlock 308 = .ok (.istore 4, 2) := dk_get daX16_shaBlock 201 (r := (308, .istore 4, 2)) rfl
theorem dX16_shaBlock_310 : decode cX16_shaBlock 310 = .ok (.aload_n 0, 1) := dk_get daX16_shaBlock 202 (r := (310, .aload_n 0, 1)) rfl
theorem dX16_shaBlock_311 : decode cX16_shaBlock 311 = .ok (.getfield 45, 3) := dk_get daX16_shaBlock 203 (r := (311, .getfield 45, 3)) rfl
theorem dX16_shaBlock_314 : decode cX16_shaBlock 314 = .ok (.iconst 0, 1) := dk_get daX16_shaBlock 204 (r := (314, .iconst 0, 1)) rfl
theorem dX16_shaBlock_315 : decode cX16_shaBlock 315 = .ok (.iaload, 1) := dk_get daX16_shaBlock 205 (r := (315, .iaload, 1)) rfl
theorem dX16_shaBlock_316 : decode cX16_shaBlock 316 = .ok (.bipush 30, 2) := dk_get daX16_shaBlock 206 (r := (316, .bipush 30, 2)) rfl
theorem dX16_shaBlock_318 : decode cX16_shaBlock 318 = .ok (.invokestatic 41, 3) := dk_get daX16_shaBlock 207 (r := (318, .invokestatic 41, 3)) rfl
theorem dX16_shaBlock_321 : decode cX16_shaBlock 321 = .ok (.aload_n 0, 1) := dk_get daX16_shaBlock 208 (r := (321, .aload_n 0, 1)) rfl
theorem dX16_shaBlock_322 : decode cX16_shaBlock 322 = .ok (.getfield 45, 3) := dk_get daX16_shaBlock 209 (r := (322, .getfield 45, 3)) rfl
theorem dX16_shaBlock_325 : decode cX16_shaBlock 325 = .ok (.iconst 0, 1) := dk_get daX16_shaBlock 210 (r := (325, .iconst 0, 1)) rfl
theorem dX16_shaBlock_326 : decode cX16_shaBlock 326 = .ok (.iaload, 1) := dk_get daX16_shaBlock 211 (r := (326, .iaload, 1)) rfl
theorem dX16_shaBlock_327 : decode cX16_shaBlock 327 = .ok (.bipush 19, 2) := dk_get daX16_shaBlock 212 (r := (327, .bipush 19, 2)) rfl
theorem dX16_shaBlock_329 : decode cX16_shaBlock 329 = .ok (.invokestatic 41, 3) := dk_get daX16_shaBlock 213 (r := (329, .invokestatic 41, 3)) rfl
theorem dX16_shaBlock_332 : decode cX16_shaBlock 332 = .ok (.ixor, 1) := dk_get daX16_shaBlock 214 (r := (332, .ixor, 1)) rfl
theorem dX16_shaBlock_333 : decode cX16_shaBlock 333 = .ok (.aload_n 0, 1) := dk_get daX16_shaBlock 215 (r := (333, .aload_n 0, 1)) rfl
theorem dX16_shaBlock_334 : decode cX16_shaBlock 334 = .ok (.getfield 45, 3) := dk_get daX16_shaBlock 216 (r := (334, .getfield 45, 3)) rfl
theorem dX16_shaBlock_337 : decode cX16_shaBlock 337 = .ok (.iconst 0, 1) := dk_get daX16_shaBlock 217 (r := (337, .iconst 0, 1)) rfl
theorem dX16_shaBlock_338 : decode cX16_shaBlock 338 = .ok (.iaload, 1) := dk_get daX16_shaBlock 218 (r := (338, .iaload, 1)) rfl
theorem dX16_shaBlock_339 : decode cX16_shaBlock 339 = .ok (.bipush 10, 2) := dk_get daX16_shaBlock 219 (r := (339, .bipush 10, 2)) rfl
theorem dX16_shaBlock_341 : decode cX16_shaBlock 341 = .ok (.invokestatic 41, 3) := dk_get daX16_shaBlock 220 (r := (341, .invokestatic 41, 3)) rfl
theorem dX16_shaBlock_344 : decode cX16_shaBlock 344 = .ok (.ixor, 1) := dk_get daX16_shaBlock 221 (r := (344, .ixor, 1)) rfl
theorem dX16_shaBlock_345 : decode cX16_shaBlock 345 = .ok (.aload_n 0, 1) := dk_get daX16_shaBlock 222 (r := (345, .aload_n 0, 1)) rfl
theorem dX16_shaBlock_346 : decode cX16_shaBlock 346 = .ok (.getfield 45, 3) := dk_get daX16_shaBlock 223 (r := (346, .getfield 45, 3)) rfl
theorem dX16_shaBlock_349 : decode cX16_shaBlock 349 = .ok (.iconst 0, 1) := dk_get daX16_shaBlock 224 (r := (349, .iconst 0, 1)) rfl
theorem dX16_shaBlock_350 : decode cX16_shaBlock 350 = .ok (.iaload, 1) := dk_get daX16_shaBlock 225 (r := (350, .iaload, 1)) rfl
theorem dX16_shaBlock_351 : decode cX16_shaBlock 351 = .ok (.aload_n 0, 1) := dk_get daX16_shaBlock 226 (r := (351, .aload_n 0, 1)) rfl
theorem dX16_shaBlock_352 : decode cX16_shaBlock 352 = .ok (.getfield 45, 3) := dk_get daX16_shaBlock 227 (r := (352, .getfield 45, 3)) rfl
theorem dX16_shaBlock_355 : decode cX16_shaBlock 355 = .ok (.iconst 1, 1) := dk_get daX16_shaBlock 228 (r := (355, .iconst 1, 1)) rfl
theorem dX16_shaBlock_356 : decode cX16_shaBlock 356 = .ok (.iaload, 1) := dk_get daX16_shaBlock 229 (r := (356, .iaload, 1)) rfl
theorem dX16_shaBlock_357 : decode cX16_shaBlock 357 = .ok (.iand, 1) := dk_get daX16_shaBlock 230 (r := (357, .iand, 1)) rfl
theorem dX16_shaBlock_358 : decode cX16_shaBlock 358 = .ok (.aload_n 0, 1) := dk_get daX16_shaBlock 231 (r := (358, .aload_n 0, 1)) rfl
theorem dX16_shaBlock_359 : decode cX16_shaBlock 359 = .ok (.getfield 45, 3) := dk_get daX16_shaBlock 232 (r := (359, .getfield 45, 3)) rfl
theorem dX16_shaBlock_362 : decode cX16_shaBlock 362 = .ok (.iconst 0, 1) := dk_get daX16_shaBlock 233 (r := (362, .iconst 0, 1)) rfl
theorem dX16_shaBlock_363 : decode cX16_shaBlock 363 = .ok (.iaload, 1) := dk_get daX16_shaBlock 234 (r := (363, .iaload, 1)) rfl
theorem dX16_shaBlock_364 : decode cX16_shaBlock 364 = .ok (.aload_n 0, 1) := dk_get daX16_shaBlock 235 (r := (364, .aload_n 0, 1)) rfl
theorem dX16_shaBlock_365 : decode cX16_shaBlock 365 = .ok (.getfield 45, 3) := dk_get daX16_shaBlock 236 (r := (365, .getfield 45, 3)) rfl
theorem dX16_shaBlock_368 : decode cX16_shaBlock 368 = .ok (.iconst 2, 1) := dk_get daX16_shaBlock 237 (r := (368, .iconst 2, 1)) rfl
theorem dX16_shaBlock_369 : decode cX16_shaBlock 369 = .ok (.iaload, 1) := dk_get daX16_shaBlock 238 (r := (369, .iaload, 1)) rfl
theorem dX16_shaBlock_370 : decode cX16_shaBlock 370 = .ok (.iand, 1) := dk_get daX16_shaBlock 239 (r := (370, .iand, 1)) rfl
theorem dX16_shaBlock_371 : decode cX16_shaBlock 371 = .ok (.ixor, 1) := dk_get daX16_shaBlock 240 (r := (371, .ixor, 1)) rfl
theorem dX16_shaBlock_372 : decode cX16_shaBlock 372 = .ok (.aload_n 0, 1) := dk_get daX16_shaBlock 241 (r := (372, .aload_n 0, 1)) rfl
theorem dX16_shaBlock_373 : decode cX16_shaBlock 373 = .ok (.getfield 45, 3) := dk_get daX16_shaBlock 242 (r := (373, .getfield 45, 3)) rfl
theorem dX16_shaBlock_376 : decode cX16_shaBlock 376 = .ok (.iconst 1, 1) := dk_get daX16_shaBlock 243 (r := (376, .iconst 1, 1)) rfl
theorem dX16_shaBlock_377 : decode cX16_shaBlock 377 = .ok (.iaload, 1) := dk_get daX16_shaBlock 244 (r := (377, .iaload, 1)) rfl
theorem dX16_shaBlock_378 : decode cX16_shaBlock 378 = .ok (.aload_n 0, 1) := dk_get daX16_shaBlock 245 (r := (378, .aload_n 0, 1)) rfl
theorem dX16_shaBlock_379 : decode cX16_shaBlock 379 = .ok (.getfield 45, 3) := dk_get daX16_shaBlock 246 (r := (379, .getfield 45, 3)) rfl
theorem dX16_shaBlock_382 : decode cX16_shaBlock 382 = .ok (.iconst 2, 1) := dk_get daX16_shaBlock 247 (r := (382, .iconst 2, 1)) rfl
theorem dX16_shaBlock_383 : decode cX16_shaBlock 383 = .ok (.iaload, 1) := dk_get daX16_shaBlock 248 (r := (383, .iaload, 1)) rfl
theorem dX16_shaBlock_384 : decode cX16_shaBlock 384 = .ok (.iand, 1) := dk_get daX16_shaBlock 249 (r := (384, .iand, 1)) rfl
theorem dX16_shaBlock_385 : decode cX16_shaBlock 385 = .ok (.ixor, 1) := dk_get daX16_shaBlock 250 (r := (385, .ixor, 1)) rfl
theorem dX16_shaBlock_386 : decode cX16_shaBlock 386 = .ok (.iadd, 1) := dk_get daX16_shaBlock 251 (r := (386, .iadd, 1)) rfl
theorem dX16_shaBlock_387 : decode cX16_shaBlock 387 = .ok (.istore 5, 2) := dk_get daX16_shaBlock 252 (r := (387, .istore 5, 2)) rfl
theorem dX16_shaBlock_389 : decode cX16_shaBlock 389 = .ok (.bipush 7, 2) := dk_get daX16_shaBlock 253 (r := (389, .bipush 7, 2)) rfl
theorem dX16_shaBlock_391 : decode cX16_shaBlock 391 = .ok (.istore 6, 2) := dk_get daX16_shaBlock 254 (r := (391, .istore 6, 2)) rfl
theorem dX16_shaBlock_393 : decode cX16_shaBlock 393 = .ok (.iload 6, 2) := dk_get daX16_shaBlock 255 (r := (393, .iload 6, 2)) rfl
theorem dX16_shaBlock_395 : decode cX16_shaBlock 395 = .ok (.ifCond .le 25, 3) := dk_get daX16_shaBlock 256 (r := (395, .ifCond .le 25, 3)) rfl
theorem dX16_shaBlock_398 : decode cX16_shaBlock 398 = .ok (.aload_n 0, 1) := dk_get daX16_shaBlock 257 (r := (398, .aload_n 0, 1)) rfl
theorem dX16_shaBlock_399 : decode cX16_shaBlock 399 = .ok (.getfield 45, 3) := dk_get daX16_shaBlock 258 (r := (399, .getfield 45, 3)) rfl
theorem dX16_shaBlock_402 : decode cX16_shaBlock 402 = .ok (.iload 6, 2) := dk_get daX16_shaBlock 259 (r := (402, .iload 6, 2)) rfl
theorem dX16_shaBlock_404 : decode cX16_shaBlock 404 = .ok (.aload_n 0, 1) := dk_get daX16_shaBlock 260 (r := (404, .aload_n 0, 1)) rfl
theorem dX16_shaBlock_405 : decode cX16_shaBlock 405 = .ok (.getfield 45, 3) := dk_get daX16_shaBlock 261 (r := (405, .getfield 45, 3)) rfl
theorem dX16_shaBlock_408 : decode cX16_shaBlock 408 = .ok (.iload 6, 2) := dk_get daX16_shaBlock 262 (r := (408, .iload 6, 2)) rfl
theorem dX16_shaBlock_410 : decode cX16_shaBlock 410 = .ok (.iconst 1, 1) := dk_get daX16_shaBlock 263 (r := (410, .iconst 1, 1)) rfl
theorem dX16_shaBlock_411 : decode cX16_shaBlock 411 = .ok (.isub, 1) := dk_get daX16_shaBlock 264 (r := (411, .isub, 1)) rfl
theorem dX16_shaBlock_412 : decode cX16_shaBlock 412 = .ok (.iaload, 1) := dk_get daX16_shaBlock 265 (r := (412, .iaload, 1)) rfl
theorem dX16_shaBlock_413 : decode cX16_shaBlock 413 = .ok (.iastore, 1) := dk_get daX16_shaBlock 266 (r := (413, .iastore, 1)) rfl
theorem dX16_shaBlock_414 : decode cX16_shaBlock 414 = .ok (.iinc 6 (-1), 3) := dk_get daX16_shaBlock 267 (r := (414, .iinc 6 (-1), 3)) rfl
theorem dX16_shaBlock_417 : decode cX16_shaBlock 417 = .ok (.goto (-24), 3) := dk_get daX16_shaBlock 268 (r := (417, .goto (-24), 3)) rfl
theorem dX16_shaBlock_420 : decode cX16_shaBlock 420 = .ok (.aload_n 0, 1) := dk_get daX16_shaBlock 269 (r := (420, .aload_n 0, 1)) rfl
theorem dX16_shaBlock_421 : decode cX16_shaBlock 421 = .ok (.getfield 45, 3) := dk_get daX16_shaBlock 270 (r := (421, .getfield 45, 3)) rfl
theorem dX16_shaBlock_424 : decode cX16_shaBlock 424 = .ok (.iconst 4, 1) := dk_get daX16_shaBlock 271 (r := (424, .iconst 4, 1)) rfl
theorem dX16_shaBlock_425 : decode cX16_shaBlock 425 = .ok (.dup2, 1) := dk_get daX16_shaBlock 272 (r := (425, .dup2, 1)) rfl
theorem dX16_shaBlock_426 : decode cX16_shaBlock 426 = .ok (.iaload, 1) := dk_get daX16_shaBlock 273 (r := (426, .iaload, 1)) rfl
theorem dX16_shaBlock_427 : decode cX16_shaBlock 427 = .ok (.iload 4, 2) := dk_get daX16_shaBlock 274 (r := (427, .iload 4, 2)) rfl
theorem dX16_shaBlock_429 : decode cX16_shaBlock 429 = .ok (.iadd, 1) := dk_get daX16_shaBlock 275 (r := (429, .iadd, 1)) rfl
theorem dX16_shaBlock_430 : decode cX16_shaBlock 430 = .ok (.iastore, 1) := dk_get daX16_shaBlock 276 (r := (430, .iastore, 1)) rfl
theorem dX16_shaBlock_431 : decode cX16_shaBlock 431 = .ok (.aload_n 0, 1) := dk_get daX16_shaBlock 277 (r := (431, .aload_n 0, 1)) rfl
theorem dX16_shaBlock_432 : decode cX16_shaBlock 432 = .ok (.getfield 45, 3) := dk_get daX16_shaBlock 278 (r := (432, .getfield 45, 3)) rfl
theorem dX16_shaBlock_435 : decode cX16_shaBlock 435 = .ok (.iconst 0, 1) := dk_get daX16_shaBlock 279 (r := (435, .iconst 0, 1)) rfl
theorem dX16_shaBlock_436 : decode cX16_shaBlock 436 = .ok (.iload 4, 2) := dk_get daX16_shaBlock 280 (r := (436, .iload 4, 2)) rfl
theorem dX16_shaBlock_438 : decode cX16_shaBlock 438 = .ok (.iload 5, 2) := dk_get daX16_shaBlock 281 (r := (438, .iload 5, 2)) rfl
theorem dX16_shaBlock_440 : decode cX16_shaBlock 440 = .ok (.iadd, 1) := dk_get daX16_shaBlock 282 (r := (440, .iadd, 1)) rfl
theorem dX16_shaBlock_441 : decode cX16_shaBlock 441 = .ok (.iastore, 1) := dk_get daX16_shaBlock 283 (r := (441, .iastore, 1)) rfl
theorem dX16_shaBlock_442 : decode cX16_shaBlock 442 = .ok (.iinc 3 1, 3) := dk_get daX16_shaBlock 284 (r := (442, .iinc 3 1, 3)) rfl
theorem dX16_shaBlock_445 : decode cX16_shaBlock 445 = .ok (.goto (-231), 3) := dk_get daX16_shaBlock 285 (r := (445, .goto (-231), 3)) rfl
theorem dX16_shaBlock_448 : decode cX16_shaBlock 448 = .ok (.iconst 0, 1) := dk_get daX16_shaBlock 286 (r := (448, .iconst 0, 1)) rfl
theorem dX16_shaBlock_449 : decode cX16_shaBlock 449 = .ok (.istore_n 3, 1) := dk_get daX16_shaBlock 287 (r := (449, .istore_n 3, 1)) rfl
theorem dX16_shaBlock_450 : decode cX16_shaBlock 450 = .ok (.iload_n 3, 1) := dk_get daX16_shaBlock 288 (r := (450, .iload_n 3, 1)) rfl
theorem dX16_shaBlock_451 : decode cX16_shaBlock 451 = .ok (.bipush 8, 2) := dk_get daX16_shaBlock 289 (r := (451, .bipush 8, 2)) rfl
theorem dX16_shaBlock_453 : decode cX16_shaBlock 453 = .ok (.if_icmp .ge 24, 3) := dk_get daX16_shaBlock 290 (r := (453, .if_icmp .ge 24, 3)) rfl
theorem dX16_shaBlock_456 : decode cX16_shaBlock 456 = .ok (.aload_n 0, 1) := dk_get daX16_shaBlock 291 (r := (456, .aload_n 0, 1)) rfl
theorem dX16_shaBlock_457 : decode cX16_shaBlock 457 = .ok (.getfield 19, 3) := dk_get daX16_shaBlock 292 (r := (457, .getfield 19, 3)) rfl
theorem dX16_shaBlock_460 : decode cX16_shaBlock 460 = .ok (.iload_n 3, 1) := dk_get daX16_shaBlock 293 (r := (460, .iload_n 3, 1)) rfl
theorem dX16_shaBlock_461 : decode cX16_shaBlock 461 = .ok (.dup2, 1) := dk_get daX16_shaBlock 294 (r := (461, .dup2, 1)) rfl
theorem dX16_shaBlock_462 : decode cX16_shaBlock 462 = .ok (.iaload, 1) := dk_get daX16_shaBlock 295 (r := (462, .iaload, 1)) rfl
theorem dX16_shaBlock_463 : decode cX16_shaBlock 463 = .ok (.aload_n 0, 1) := dk_get daX16_shaBlock 296 (r := (463, .aload_n 0, 1)) rfl
theorem dX16_shaBlock_464 : decode cX16_shaBlock 464 = .ok (.getfield 45, 3) := dk_get daX16_shaBlock 297 (r := (464, .getfield 45, 3)) rfl
theorem dX16_shaBlock_467 : decode cX16_shaBlock 467 = .ok (.iload_n 3, 1) := dk_get daX16_shaBlock 298 (r := (467, .iload_n 3, 1)) rfl
theorem dX16_shaBlock_468 : decode cX16_shaBlock 468 = .ok (.iaload, 1) := dk_get daX16_shaBlock 299 (r := (468, .iaload, 1)) rfl
theorem dX16_shaBlock_469 : decode cX16_shaBlock 469 = .ok (.iadd, 1) := dk_get daX16_shaBlock 300 (r := (469, .iadd, 1)) rfl
theorem dX16_shaBlock_470 : decode cX16_shaBlock 470 = .ok (.iastore, 1) := dk_get daX16_shaBlock 301 (r := (470, .iastore, 1)) rfl
theorem dX16_shaBlock_471 : decode cX16_shaBlock 471 = .ok (.iinc 3 1, 3) := dk_get daX16_shaBlock 302 (r := (471, .iinc 3 1, 3)) rfl
theorem dX16_shaBlock_474 : decode cX16_shaBlock 474 = .ok (.goto (-24), 3) := dk_get daX16_shaBlock 303 (r := (474, .goto (-24), 3)) rfl
theorem dX16_shaBlock_477 : decode cX16_shaBlock 477 = .ok (.return_, 1) := dk_get daX16_shaBlock 304 (r := (477, .return_, 1)) rfl
abbrev mX16_turn : ks_M := (RX16, cX16_turn, 2, (some .int), "turn")
def drX16_turn : List (Nat × Instr × Nat) := [(0, .iload_n 0, 1), (1, .iload_n 1, 1), (2, .ishl, 1), (3, .iload_n 0, 1), (4, .bipush 32, 2), (6, .iload_n 1, 1), (7, .isub, 1), (8, .iushr, 1), (9, .ior, 1), (10, .ireturn, 1)]
set_option maxRecDepth 100000 in
theorem daX16_turn : dk_all cX16_turn drX16_turn = true := by decide +kernel
theorem dX16_turn_0 : decode cX16_turn 0 = .ok (.iload_n 0, 1) := dk_get daX16_turn 0 (r := (0, .iload_n 0, 1)) rfl
theorem dX16_turn_1 : decode cX16_turn 1 = .ok (.iload_n 1, 1) := dk_get daX16_turn 1 (r := (1, .iload_n 1, 1)) rfl
theorem dX16_turn_2 : decode cX16_turn 2 = .ok (.ishl, 1) := dk_get daX16_turn 2 (r := (2, .ishl, 1)) rfl
theorem dX16_turn_3 : decode cX16_turn 3 = .ok (.iload_n 0, 1) := dk_get daX16_turn 3 (r := (3, .iload_n 0, 1)) rfl
theorem dX16_turn_4 : decode cX16_turn 4 = .ok (.bipush 32, 2) := dk_get daX16_turn 4 (r := (4, .bipush 32, 2)) rfl
theorem dX16_turn_6 : decode cX16_turn 6 = .ok (.iload_n 1, 1) := dk_get daX16_turn 5 (r := (6, .iload_n 1, 1)) rfl
theorem dX16_turn_7 : decode cX16_turn 7 = .ok (.isub, 1) := dk_get daX16_turn 6 (r := (7, .isub, 1)) rfl
theorem dX16_turn_8 : decode cX16_turn 8 = .ok (.iushr, 1) := dk_get daX16_turn 7 (r := (8, .iushr, 1)) rfl
theorem dX16_turn_9 : decode cX16_turn 9 = .ok (.ior, 1) := dk_get daX16_turn 8 (r := (9, .ior, 1)) rfl
theorem dX16_turn_10 : decode cX16_turn 10 = .ok (.ireturn, 1) := dk_get daX16_turn 9 (r := (10, .ireturn, 1)) rfl
abbrev mX16_pad : ks_M := (RX16, cX16_pad, 10, (some .int), "pad")
def drX16_pad : List (Nat × Instr × Nat) := [(0, .iconst 0, 1), (1, .istore 6, 2), (3, .iload 6, 2), (5, .iload_n 3, 1), (6, .if_icmp .ge 22, 3), (9, .aload_n 0, 1), (10, .getfield 34, 3), (13, .iload 6, 2), (15, .aload_n 1, 1), (16, .iload_n 2, 1), (17, .iload 6, 2), (19, .iadd, 1), (20, .baload, 1), (21, .bastore, 1), (22, .iinc 6 1, 3), (25, .goto (-22), 3), (28, .iload_n 3, 1), (29, .bipush 72, 2), (31, .iadd, 1), (32, .bipush 64, 2), (34, .idiv, 1), (35, .bipush 64, 2), (37, .imul, 1), (38, .istore 6, 2), (40, .iload_n 3, 1), (41, .istore 7, 2), (43, .iload 7, 2), (45, .iload 6, 2), (47, .if_icmp .ge 17, 3), (50, .aload_n 0, 1), (51, .getfield 34, 3), (54, .iload 7, 2), (56, .iconst 0, 1), (57, .bastore, 1), (58, .iinc 7 1, 3), (61, .goto (-18), 3), (64, .aload_n 0, 1), (65, .getfield 34, 3), (68, .iload_n 3, 1), (69, .bipush (-128), 2), (71, .bastore, 1), (72, .ldc2_w 51, 3), (75, .iload 4, 2), (77, .i2l, 1), (78, .lmul, 1), (79, .lstore 7, 2), (81, .iconst 0, 1), (82, .istore 9, 2), (84, .iload 9, 2), (86, .bipush 8, 2), (88, .if_icmp .ge 47, 3), (91, .aload_n 0, 1), (92, .getfield 34, 3), (95, .iload 5, 2), (97, .ifCond .eq 13, 3), (100, .iload 6, 2), (102, .iconst 1, 1), (103, .isub, 1), (104, .iload 9, 2), (106, .isub, 1), (107, .goto 11, 3), (110, .iload 6, 2), (112, .bipush 8, 2), (114, .isub, 1), (115, .iload 9, 2), (117, .iadd, 1), (118, .lload 7, 2), (120, .bipush 8, 2), (122, .iload 9, 2), (124, .imul, 1), (125, .lushr, 1), (126, .l2i, 1), (127, .i2b, 1), (128, .bastore, 1), (129, .iinc 9 1, 3), (132, .goto (-48), 3), (135, .iload 6, 2), (137, .ireturn, 1)]
set_option maxRecDepth 100000 in
theorem daX16_pad : dk_all cX16_pad drX16_pad = true := by decide +kernel
theorem dX16_pad_0 : decode cX16_pad 0 = .ok (.iconst 0, 1) := dk_get daX16_pad 0 (r := (0, .iconst 0, 1)) rfl
theorem dX16_pad_1 : decode cX16_pad 1 = .ok (.istore 6, 2) := dk_get daX16_pad 1 (r := (1, .istore 6, 2)) rfl
theorem dX16_pad_3 : decode cX16_pad 3 = .ok (.iload 6, 2) := dk_get daX16_pad 2 (r := (3, .iload 6, 2)) rfl
theorem dX16_pad_5 : decode cX16_pad 5 = .ok (.iload_n 3, 1) := dk_get daX16_pad 3 (r := (5, .iload_n 3, 1)) rfl
theorem dX16_pad_6 : decode cX16_pad 6 = .ok (.if_icmp .ge 22, 3) := dk_get daX16_pad 4 (r := (6, .if_icmp .ge 22, 3)) rfl
theorem dX16_pad_9 : decode cX16_pad 9 = .ok (.aload_n 0, 1) := dk_get daX16_pad 5 (r := (9, .aload_n 0, 1)) rfl
theorem dX16_pad_10 : decode cX16_pad 10 = .ok (.getfield 34, 3) := dk_get daX16_pad 6 (r := (10, .getfield 34, 3)) rfl
theorem dX16_pad_13 : decode cX16_pad 13 = .ok (.iload 6, 2) := dk_get daX16_pad 7 (r := (13, .iload 6, 2)) rfl
theorem dX16_pad_15 : decode cX16_pad 15 = .ok (.aload_n 1, 1) := dk_get daX16_pad 8 (r := (15, .aload_n 1, 1)) rfl
theorem dX16_pad_16 : decode cX16_pad 16 = .ok (.iload_n 2, 1) := dk_get daX16_pad 9 (r := (16, .iload_n 2, 1)) rfl
theorem dX16_pad_17 : decode cX16_pad 17 = .ok (.iload 6, 2) := dk_get daX16_pad 10 (r := (17, .iload 6, 2)) rfl
theorem dX16_pad_19 : decode cX16_pad 19 = .ok (.iadd, 1) := dk_get daX16_pad 11 (r := (19, .iadd, 1)) rfl
theorem dX16_pad_20 : decode cX16_pad 20 = .ok (.baload, 1) := dk_get daX16_pad 12 (r := (20, .baload, 1)) rfl
theorem dX16_pad_21 : decode cX16_pad 21 = .ok (.bastore, 1) := dk_get daX16_pad 13 (r := (21, .bastore, 1)) rfl
theorem dX16_pad_22 : decode cX16_pad 22 = .ok (.iinc 6 1, 3) := dk_get daX16_pad 14 (r := (22, .iinc 6 1, 3)) rfl
theorem dX16_pad_25 : decode cX16_pad 25 = .ok (.goto (-22), 3) := dk_get daX16_pad 15 (r := (25, .goto (-22), 3)) rfl
theorem dX16_pad_28 : decode cX16_pad 28 = .ok (.iload_n 3, 1) := dk_get daX16_pad 16 (r := (28, .iload_n 3, 1)) rfl
theorem dX16_pad_29 : decode cX16_pad 29 = .ok (.bipush 72, 2) := dk_get daX16_pad 17 (r := (29, .bipush 72, 2)) rfl
theorem dX16_pad_31 : decode cX16_pad 31 = .ok (.iadd, 1) := dk_get daX16_pad 18 (r := (31, .iadd, 1)) rfl
theorem dX16_pad_32 : decode cX16_pad 32 = .ok (.bipush 64, 2) := dk_get daX16_pad 19 (r := (32, .bipush 64, 2)) rfl
theorem dX16_pad_34 : decode cX16_pad 34 = .ok (.idiv, 1) := dk_get daX16_pad 20 (r := (34, .idiv, 1)) rfl
theorem dX16_pad_35 : decode cX16_pad 35 = .ok (.bipush 64, 2) := dk_get daX16_pad 21 (r := (35, .bipush 64, 2)) rfl
theorem dX16_pad_37 : decode cX16_pad 37 = .ok (.imul, 1) := dk_get daX16_pad 22 (r := (37, .imul, 1)) rfl
theorem dX16_pad_38 : decode cX16_pad 38 = .ok (.istore 6, 2) := dk_get daX16_pad 23 (r := (38, .istore 6, 2)) rfl
theorem dX16_pad_40 : decode cX16_pad 40 = .ok (.iload_n 3, 1) := dk_get daX16_pad 24 (r := (40, .iload_n 3, 1)) rfl
theorem dX16_pad_41 : decode cX16_pad 41 = .ok (.istore 7, 2) := dk_get daX16_pad 25 (r := (41, .istore 7, 2)) rfl
theorem dX16_pad_43 : decode cX16_pad 43 = .ok (.iload 7, 2) := dk_get daX16_pad 26 (r := (43, .iload 7, 2)) rfl
theorem dX16_pad_45 : decode cX16_pad 45 = .ok (.iload 6, 2) := dk_get daX16_pad 27 (r := (45, .iload 6, 2)) rfl
theorem dX16_pad_47 : decode cX16_pad 47 = .ok (.if_icmp .ge 17, 3) := dk_get daX16_pad 28 (r := (47, .if_icmp .ge 17, 3)) rfl
theorem dX16_pad_50 : decode cX16_pad 50 = .ok (.aload_n 0, 1) := dk_get daX16_pad 29 (r := (50, .aload_n 0, 1)) rfl
theorem dX16_pad_51 : decode cX16_pad 51 = .ok (.getfield 34, 3) := dk_get daX16_pad 30 (r := (51, .getfield 34, 3)) rfl
theorem dX16_pad_54 : decode cX16_pad 54 = .ok (.iload 7, 2) := dk_get daX16_pad 31 (r := (54, .iload 7, 2)) rfl
theorem dX16_pad_56 : decode cX16_pad 56 = .ok (.iconst 0, 1) := dk_get daX16_pad 32 (r := (56, .iconst 0, 1)) rfl
theorem dX16_pad_57 : decode cX16_pad 57 = .ok (.bastore, 1) := dk_get daX16_pad 33 (r := (57, .bastore, 1)) rfl
theorem dX16_pad_58 : decode cX16_pad 58 = .ok (.iinc 7 1, 3) := dk_get daX16_pad 34 (r := (58, .iinc 7 1, 3)) rfl
theorem dX16_pad_61 : decode cX16_pad 61 = .ok (.goto (-18), 3) := dk_get daX16_pad 35 (r := (61, .goto (-18), 3)) rfl
theorem dX16_pad_64 : decode cX16_pad 64 = .ok (.aload_n 0, 1) := dk_get daX16_pad 36 (r := (64, .aload_n 0, 1)) rfl
theorem dX16_pad_65 : decode cX16_pad 65 = .ok (.getfield 34, 3) := dk_get daX16_pad 37 (r := (65, .getfield 34, 3)) rfl
theorem dX16_pad_68 : decode cX16_pad 68 = .ok (.iload_n 3, 1) := dk_get daX16_pad 38 (r := (68, .iload_n 3, 1)) rfl
theorem dX16_pad_69 : decode cX16_pad 69 = .ok (.bipush (-128), 2) := dk_get daX16_pad 39 (r := (69, .bipush (-128), 2)) rfl
theorem dX16_pad_71 : decode cX16_pad 71 = .ok (.bastore, 1) := dk_get daX16_pad 40 (r := (71, .bastore, 1)) rfl
theorem dX16_pad_72 : decode cX16_pad 72 = .ok (.ldc2_w 51, 3) := dk_get daX16_pad 41 (r := (72, .ldc2_w 51, 3)) rfl
theorem dX16_pad_75 : decode cX16_pad 75 = .ok (.iload 4, 2) := dk_get daX16_pad 42 (r := (75, .iload 4, 2)) rfl
theorem dX16_pad_77 : decode cX16_pad 77 = .ok (.i2l, 1) := dk_get daX16_pad 43 (r := (77, .i2l, 1)) rfl
theorem dX16_pad_78 : decode cX16_pad 78 = .ok (.lmul, 1) := dk_get daX16_pad 44 (r := (78, .lmul, 1)) rfl
theorem dX16_pad_79 : decode cX16_pad 79 = .ok (.lstore 7, 2) := dk_get daX16_pad 45 (r := (79, .lstore 7, 2)) rfl
theorem dX16_pad_81 : decode cX16_pad 81 = .ok (.iconst 0, 1) := dk_get daX16_pad 46 (r := (81, .iconst 0, 1)) rfl
theorem dX16_pad_82 : decode cX16_pad 82 = .ok (.istore 9, 2) := dk_get daX16_pad 47 (r := (82, .istore 9, 2)) rfl
theorem dX16_pad_84 : decode cX16_pad 84 = .ok (.iload 9, 2) := dk_get daX16_pad 48 (r := (84, .iload 9, 2)) rfl
theorem dX16_pad_86 : decode cX16_pad 86 = .ok (.bipush 8, 2) := dk_get daX16_pad 49 (r := (86, .bipush 8, 2)) rfl
theorem dX16_pad_88 : decode cX16_pad 88 = .ok (.if_icmp .ge 47, 3) := dk_get daX16_pad 50 (r := (88, .if_icmp .ge 47, 3)) rfl
theorem dX16_pad_91 : decode cX16_pad 91 = .ok (.aload_n 0, 1) := dk_get daX16_pad 51 (r := (91, .aload_n 0, 1)) rfl
theorem dX16_pad_92 : decode cX16_pad 92 = .ok (.getfield 34, 3) := dk_get daX16_pad 52 (r := (92, .getfield 34, 3)) rfl
theorem dX16_pad_95 : decode cX16_pad 95 = .ok (.iload 5, 2) := dk_get daX16_pad 53 (r := (95, .iload 5, 2)) rfl
theorem dX16_pad_97 : decode cX16_pad 97 = .ok (.ifCond .eq 13, 3) := dk_get daX16_pad 54 (r := (97, .ifCond .eq 13, 3)) rfl
theorem dX16_pad_100 : decode cX16_pad 100 = .ok (.iload 6, 2) := dk_get daX16_pad 55 (r := (100, .iload 6, 2)) rfl
theorem dX16_pad_102 : decode cX16_pad 102 = .ok (.iconst 1, 1) := dk_get daX16_pad 56 (r := (102, .iconst 1, 1)) rfl
theorem dX16_pad_103 : decode cX16_pad 103 = .ok (.isub, 1) := dk_get daX16_pad 57 (r := (103, .isub, 1)) rfl
theorem dX16_pad_104 : decode cX16_pad 104 = .ok (.iload 9, 2) := dk_get daX16_pad 58 (r := (104, .iload 9, 2)) rfl
theorem dX16_pad_106 : decode cX16_pad 106 = .ok (.isub, 1) := dk_get daX16_pad 59 (r := (106, .isub, 1)) rfl
theorem dX16_pad_107 : decode cX16_pad 107 = .ok (.goto 11, 3) := dk_get daX16_pad 60 (r := (107, .goto 11, 3)) rfl
theorem dX16_pad_110 : decode cX16_pad 110 = .ok (.iload 6, 2) := dk_get daX16_pad 61 (r := (110, .iload 6, 2)) rfl
theorem dX16_pad_112 : decode cX16_pad 112 = .ok (.bipush 8, 2) := dk_get daX16_pad 62 (r := (112, .bipush 8, 2)) rfl
theorem dX16_pad_114 : decode cX16_pad 114 = .ok (.isub, 1) := dk_get daX16_pad 63 (r := (114, .isub, 1)) rfl
theorem dX16_pad_115 : decode cX16_pad 115 = .ok (.iload 9, 2) := dk_get daX16_pad 64 (r := (115, .iload 9, 2)) rfl
theorem dX16_pad_117 : decode cX16_pad 117 = .ok (.iadd, 1) := dk_get daX16_pad 65 (r := (117, .iadd, 1)) rfl
theorem dX16_pad_118 : decode cX16_pad 118 = .ok (.lload 7, 2) := dk_get daX16_pad 66 (r := (118, .lload 7, 2)) rfl
theorem dX16_pad_120 : decode cX16_pad 120 = .ok (.bipush 8, 2) := dk_get daX16_pad 67 (r := (120, .bipush 8, 2)) rfl
theorem dX16_pad_122 : decode cX16_pad 122 = .ok (.iload 9, 2) := dk_get daX16_pad 68 (r := (122, .iload 9, 2)) rfl
theorem dX16_pad_124 : decode cX16_pad 124 = .ok (.imul, 1) := dk_get daX16_pad 69 (r := (124, .imul, 1)) rfl
theorem dX16_pad_125 : decode cX16_pad 125 = .ok (.lushr, 1) := dk_get daX16_pad 70 (r := (125, .lushr, 1)) rfl
theorem dX16_pad_126 : decode cX16_pad 126 = .ok (.l2i, 1) := dk_get daX16_pad 71 (r := (126, .l2i, 1)) rfl
theorem dX16_pad_127 : decode cX16_pad 127 = .ok (.i2b, 1) := dk_get daX16_pad 72 (r := (127, .i2b, 1)) rfl
theorem dX16_pad_128 : decode cX16_pad 128 = .ok (.bastore, 1) := dk_get daX16_pad 73 (r := (128, .bastore, 1)) rfl
theorem dX16_pad_129 : decode cX16_pad 129 = .ok (.iinc 9 1, 3) := dk_get daX16_pad 74 (r := (129, .iinc 9 1, 3)) rfl
theorem dX16_pad_132 : decode cX16_pad 132 = .ok (.goto (-48), 3) := dk_get daX16_pad 75 (r := (132, .goto (-48), 3)) rfl
theorem dX16_pad_135 : decode cX16_pad 135 = .ok (.iload 6, 2) := dk_get daX16_pad 76 (r := (135, .iload 6, 2)) rfl
theorem dX16_pad_137 : decode cX16_pad 137 = .ok (.ireturn, 1) := dk_get daX16_pad 77 (r := (137, .ireturn, 1)) rfl
abbrev mX16_ripe : ks_M := (RX16, cX16_ripe, 9, none, "ripe")
def drX16_ripe : List (Nat × Instr × Nat) := [(0, .iload_n 3, 1), (1, .bipush 64, 2), (3, .idiv, 1), (4, .bipush 64, 2), (6, .imul, 1), (7, .istore 6, 2), (9, .aload_n 0, 1), (10, .getfield 19, 3), (13, .iconst 0, 1), (14, .ldc 53, 2), (16, .iastore, 1), (17, .aload_n 0, 1), (18, .getfield 19, 3), (21, .iconst 1, 1), (22, .ldc 54, 2), (24, .iastore, 1), (25, .aload_n 0, 1), (26, .getfield 19, 3), (29, .iconst 2, 1), (30, .ldc 55, 2), (32, .iastore, 1), (33, .aload_n 0, 1), (34, .getfield 19, 3), (37, .iconst 3, 1), (38, .ldc 56, 2), (40, .iastore, 1), (41, .aload_n 0, 1), (42, .getfield 19, 3), (45, .iconst 4, 1), (46, .ldc 57, 2), (48, .iastore, 1), (49, .iconst 0, 1), (50, .istore 7, 2), (52, .iload 7, 2), (54, .iload 6, 2), (56, .if_icmp .ge 18, 3), (59, .aload_n 0, 1), (60, .aload_n 1, 1), (61, .iload_n 2, 1), (62, .iload 7, 2), (64, .iadd, 1), (65, .invokevirtual 58, 3), (68, .iinc 7 64, 3), (71, .goto (-19), 3), (74, .aload_n 0, 1), (75, .aload_n 1, 1), (76, .iload_n 2, 1), (77, .iload 6, 2), (79, .iadd, 1), (80, .iload_n 3, 1), (81, .iload 6, 2), (83, .isub, 1), (84, .iload_n 3, 1), (85, .iconst 0, 1), (86, .invokevirtual 30, 3), (89, .istore 7, 2), (91, .iconst 0, 1), (92, .istore 8, 2), (94, .iload 8, 2), (96, .iload 7, 2), (98, .if_icmp .ge 19, 3), (101, .aload_n 0, 1), (102, .aload_n 0, 1), (103, .getfield 34, 3), (106, .iload 8, 2), (108, .invokevirtual 58, 3), (111, .iinc 8 64, 3), (114, .goto (-20), 3), (117, .iconst 0, 1), (118, .istore 8, 2), (120, .iload 8, 2), (122, .bipush 20, 2), (124, .if_icmp .ge 35, 3), (127, .aload 4, 2), (129, .iload 5, 2), (131, .iload 8, 2), (133, .iadd, 1), (134, .aload_n 0, 1), (135, .getfield 19, 3), (138, .iload 8, 2), (140, .iconst 4, 1), (141, .idiv, 1), (142, .iaload, 1), (143, .bipush 8, 2), (145, .iload 8, 2), (147, .iconst 4, 1), (148, .irem, 1), (149, .imul, 1), (150, .iushr, 1), (151, .i2b, 1), (152, .bastore, 1), (153, .iinc 8 1, 3), (156, .goto (-36), 3), (159, .return_, 1)]
set_option maxRecDepth 100000 in
theorem daX16_ripe : dk_all cX16_ripe drX16_ripe = true := by decide +kernel
theorem dX16_ripe_0 : decode cX16_ripe 0 = .ok (.iload_n 3, 1) := dk_get daX16_ripe 0 (r := (0, .iload_n 3, 1)) rfl
theorem dX16_ripe_1 : decode cX16_ripe 1 = .ok (.bipush 64, 2) := dk_get daX16_ripe 1 (r := (1, .bipush 64, 2)) rfl
theorem dX16_ripe_3 : decode cX16_ripe 3 = .ok (.idiv, 1) := dk_get daX16_ripe 2 (r := (3, .idiv, 1)) rfl
theorem dX16_ripe_4 : decode cX16_ripe 4 = .ok (.bipush 64, 2) := dk_get daX16_ripe 3 (r := (4, .bipush 64, 2)) rfl
theorem dX16_ripe_6 : decode cX16_ripe 6 = .ok (.imul, 1) := dk_get daX16_ripe 4 (r := (6, .imul, 1)) rfl
theorem dX16_ripe_7 : decode cX16_ripe 7 = .ok (.istore 6, 2) := dk_get daX16_ripe 5 (r := (7, .istore 6, 2)) rfl
theorem dX16_ripe_9 : decode cX16_ripe 9 = .ok (.aload_n 0, 1) := dk_get daX16_ripe 6 (r := (9, .aload_n 0, 1)) rfl
theorem dX16_ripe_10 : decode cX16_ripe 10 = .ok (.getfield 19, 3) := dk_get daX16_ripe 7 (r := (10, .getfield 19, 3)) rfl
theorem dX16_ripe_13 : decode cX16_ripe 13 = .ok (.iconst 0, 1) := dk_get daX16_ripe 8 (r := (13, .iconst 0, 1)) rfl
theorem dX16_ripe_14 : decode cX16_ripe 14 = .ok (.ldc 53, 2) := dk_get daX16_ripe 9 (r := (14, .ldc 53, 2)) rfl
theorem dX16_ripe_16 : decode cX16_ripe 16 = .ok (.iastore, 1) := dk_get daX16_ripe 10 (r := (16, .iastore, 1)) rfl
theorem dX16_ripe_17 : decode cX16_ripe 17 = .ok (.aload_n 0, 1) := dk_get daX16_ripe 11 (r := (17, .aload_n 0, 1)) rfl
theorem dX16_ripe_18 : decode cX16_ripe 18 = .ok (.getfield 19, 3) := dk_get daX16_ripe 12 (r := (18, .getfield 19, 3)) rfl
theorem dX16_ripe_21 : decode cX16_ripe 21 = .ok (.iconst 1, 1) := dk_get daX16_ripe 13 (r := (21, .iconst 1, 1)) rfl
theorem dX16_ripe_22 : decode cX16_ripe 22 = .ok (.ldc 54, 2) := dk_get daX16_ripe 14 (r := (22, .ldc 54, 2)) rfl
theorem dX16_ripe_24 : decode cX16_ripe 24 = .ok (.iastore, 1) := dk_get daX16_ripe 15 (r := (24, .iastore, 1)) rfl
theorem dX16_ripe_25 : decode cX16_ripe 25 = .ok (.aload_n 0, 1) := dk_get daX16_ripe 16 (r := (25, .aload_n 0, 1)) rfl
theorem dX16_ripe_26 : decode cX16_ripe 26 = .ok (.getfield 19, 3) := dk_get daX16_ripe 17 (r := (26, .getfield 19, 3)) rfl
theorem dX16_ripe_29 : decode cX16_ripe 29 = .ok (.iconst 2, 1) := dk_get daX16_ripe 18 (r := (29, .iconst 2, 1)) rfl
theorem dX16_ripe_30 : decode cX16_ripe 30 = .ok (.ldc 55, 2) := dk_get daX16_ripe 19 (r := (30, .ldc 55, 2)) rfl
theorem dX16_ripe_32 : decode cX16_ripe 32 = .ok (.iastore, 1) := dk_get daX16_ripe 20 (r := (32, .iastore, 1)) rfl
theorem dX16_ripe_33 : decode cX16_ripe 33 = .ok (.aload_n 0, 1) := dk_get daX16_ripe 21 (r := (33, .aload_n 0, 1)) rfl
theorem dX16_ripe_34 : decode cX16_ripe 34 = .ok (.getfield 19, 3) := dk_get daX16_ripe 22 (r := (34, .getfield 19, 3)) rfl
theorem dX16_ripe_37 : decode cX16_ripe 37 = .ok (.iconst 3, 1) := dk_get daX16_ripe 23 (r := (37, .iconst 3, 1)) rfl
theorem dX16_ripe_38 : decode cX16_ripe 38 = .ok (.ldc 56, 2) := dk_get daX16_ripe 24 (r := (38, .ldc 56, 2)) rfl
theorem dX16_ripe_40 : decode cX16_ripe 40 = .ok (.iastore, 1) := dk_get daX16_ripe 25 (r := (40, .iastore, 1)) rfl
theorem dX16_ripe_41 : decode cX16_ripe 41 = .ok (.aload_n 0, 1) := dk_get daX16_ripe 26 (r := (41, .aload_n 0, 1)) rfl
theorem dX16_ripe_42 : decode cX16_ripe 42 = .ok (.getfield 19, 3) := dk_get daX16_ripe 27 (r := (42, .getfield 19, 3)) rfl
theorem dX16_ripe_45 : decode cX16_ripe 45 = .ok (.iconst 4, 1) := dk_get daX16_ripe 28 (r := (45, .iconst 4, 1)) rfl
theorem dX16_ripe_46 : decode cX16_ripe 46 = .ok (.ldc 57, 2) := dk_get daX16_ripe 29 (r := (46, .ldc 57, 2)) rfl
theorem dX16_ripe_48 : decode cX16_ripe 48 = .ok (.iastore, 1) := dk_get daX16_ripe 30 (r := (48, .iastore, 1)) rfl
theorem dX16_ripe_49 : decode cX16_ripe 49 = .ok (.iconst 0, 1) := dk_get daX16_ripe 31 (r := (49, .iconst 0, 1)) rfl
theorem dX16_ripe_50 : decode cX16_ripe 50 = .ok (.istore 7, 2) := dk_get daX16_ripe 32 (r := (50, .istore 7, 2)) rfl
theorem dX16_ripe_52 : decode cX16_ripe 52 = .ok (.iload 7, 2) := dk_get daX16_ripe 33 (r := (52, .iload 7, 2)) rfl
theorem dX16_ripe_54 : decode cX16_ripe 54 = .ok (.iload 6, 2) := dk_get daX16_ripe 34 (r := (54, .iload 6, 2)) rfl
theorem dX16_ripe_56 : decode cX16_ripe 56 = .ok (.if_icmp .ge 18, 3) := dk_get daX16_ripe 35 (r := (56, .if_icmp .ge 18, 3)) rfl
theorem dX16_ripe_59 : decode cX16_ripe 59 = .ok (.aload_n 0, 1) := dk_get daX16_ripe 36 (r := (59, .aload_n 0, 1)) rfl
theorem dX16_ripe_60 : decode cX16_ripe 60 = .ok (.aload_n 1, 1) := dk_get daX16_ripe 37 (r := (60, .aload_n 1, 1)) rfl
theorem dX16_ripe_61 : decode cX16_ripe 61 = .ok (.iload_n 2, 1) := dk_get daX16_ripe 38 (r := (61, .iload_n 2, 1)) rfl
theorem dX16_ripe_62 : decode cX16_ripe 62 = .ok (.iload 7, 2) := dk_get daX16_ripe 39 (r := (62, .iload 7, 2)) rfl
theorem dX16_ripe_64 : decode cX16_ripe 64 = .ok (.iadd, 1) := dk_get daX16_ripe 40 (r := (64, .iadd, 1)) rfl
theorem dX16_ripe_65 : decode cX16_ripe 65 = .ok (.invokevirtual 58, 3) := dk_get daX16_ripe 41 (r := (65, .invokevirtual 58, 3)) rfl
theorem dX16_ripe_68 : decode cX16_ripe 68 = .ok (.iinc 7 64, 3) := dk_get daX16_ripe 42 (r := (68, .iinc 7 64, 3)) rfl
theorem dX16_ripe_71 : decode cX16_ripe 71 = .ok (.goto (-19), 3) := dk_get daX16_ripe 43 (r := (71, .goto (-19), 3)) rfl
theorem dX16_ripe_74 : decode cX16_ripe 74 = .ok (.aload_n 0, 1) := dk_get daX16_ripe 44 (r := (74, .aload_n 0, 1)) rfl
theorem dX16_ripe_75 : decode cX16_ripe 75 = .ok (.aload_n 1, 1) := dk_get daX16_ripe 45 (r := (75, .aload_n 1, 1)) rfl
theorem dX16_ripe_76 : decode cX16_ripe 76 = .ok (.iload_n 2, 1) := dk_get daX16_ripe 46 (r := (76, .iload_n 2, 1)) rfl
theorem dX16_ripe_77 : decode cX16_ripe 77 = .ok (.iload 6, 2) := dk_get daX16_ripe 47 (r := (77, .iload 6, 2)) rfl
theorem dX16_ripe_79 : decode cX16_ripe 79 = .ok (.iadd, 1) := dk_get daX16_ripe 48 (r := (79, .iadd, 1)) rfl
theorem dX16_ripe_80 : decode cX16_ripe 80 = .ok (.iload_n 3, 1) := dk_get daX16_ripe 49 (r := (80, .iload_n 3, 1)) rfl
theorem dX16_ripe_81 : decode cX16_ripe 81 = .ok (.iload 6, 2) := dk_get daX16_ripe 50 (r := (81, .iload 6, 2)) rfl
theorem dX16_ripe_83 : decode cX16_ripe 83 = .ok (.isub, 1) := dk_get daX16_ripe 51 (r := (83, .isub, 1)) rfl
theorem dX16_ripe_84 : decode cX16_ripe 84 = .ok (.iload_n 3, 1) := dk_get daX16_ripe 52 (r := (84, .iload_n 3, 1)) rfl
theorem dX16_ripe_85 : decode cX16_ripe 85 = .ok (.iconst 0, 1) := dk_get daX16_ripe 53 (r := (85, .iconst 0, 1)) rfl
theorem dX16_ripe_86 : decode cX16_ripe 86 = .ok (.invokevirtual 30, 3) := dk_get daX16_ripe 54 (r := (86, .invokevirtual 30, 3)) rfl
theorem dX16_ripe_89 : decode cX16_ripe 89 = .ok (.istore 7, 2) := dk_get daX16_ripe 55 (r := (89, .istore 7, 2)) rfl
theorem dX16_ripe_91 : decode cX16_ripe 91 = .ok (.iconst 0, 1) := dk_get daX16_ripe 56 (r := (91, .iconst 0, 1)) rfl
theorem dX16_ripe_92 : decode cX16_ripe 92 = .ok (.istore 8, 2) := dk_get daX16_ripe 57 (r := (92, .istore 8, 2)) rfl
theorem dX16_ripe_94 : decode cX16_ripe 94 = .ok (.iload 8, 2) := dk_get daX16_ripe 58 (r := (94, .iload 8, 2)) rfl
theorem dX16_ripe_96 : decode cX16_ripe 96 = .ok (.iload 7, 2) := dk_get daX16_ripe 59 (r := (96, .iload 7, 2)) rfl
theorem dX16_ripe_98 : decode cX16_ripe 98 = .ok (.if_icmp .ge 19, 3) := dk_get daX16_ripe 60 (r := (98, .if_icmp .ge 19, 3)) rfl
theorem dX16_ripe_101 : decode cX16_ripe 101 = .ok (.aload_n 0, 1) := dk_get daX16_ripe 61 (r := (101, .aload_n 0, 1)) rfl
theorem dX16_ripe_102 : decode cX16_ripe 102 = .ok (.aload_n 0, 1) := dk_get daX16_ripe 62 (r := (102, .aload_n 0, 1)) rfl
theorem dX16_ripe_103 : decode cX16_ripe 103 = .ok (.getfield 34, 3) := dk_get daX16_ripe 63 (r := (103, .getfield 34, 3)) rfl
theorem dX16_ripe_106 : decode cX16_ripe 106 = .ok (.iload 8, 2) := dk_get daX16_ripe 64 (r := (106, .iload 8, 2)) rfl
theorem dX16_ripe_108 : decode cX16_ripe 108 = .ok (.invokevirtual 58, 3) := dk_get daX16_ripe 65 (r := (108, .invokevirtual 58, 3)) rfl
theorem dX16_ripe_111 : decode cX16_ripe 111 = .ok (.iinc 8 64, 3) := dk_get daX16_ripe 66 (r := (111, .iinc 8 64, 3)) rfl
theorem dX16_ripe_114 : decode cX16_ripe 114 = .ok (.goto (-20), 3) := dk_get daX16_ripe 67 (r := (114, .goto (-20), 3)) rfl
theorem dX16_ripe_117 : decode cX16_ripe 117 = .ok (.iconst 0, 1) := dk_get daX16_ripe 68 (r := (117, .iconst 0, 1)) rfl
theorem dX16_ripe_118 : decode cX16_ripe 118 = .ok (.istore 8, 2) := dk_get daX16_ripe 69 (r := (118, .istore 8, 2)) rfl
theorem dX16_ripe_120 : decode cX16_ripe 120 = .ok (.iload 8, 2) := dk_get daX16_ripe 70 (r := (120, .iload 8, 2)) rfl
theorem dX16_ripe_122 : decode cX16_ripe 122 = .ok (.bipush 20, 2) := dk_get daX16_ripe 71 (r := (122, .bipush 20, 2)) rfl
theorem dX16_ripe_124 : decode cX16_ripe 124 = .ok (.if_icmp .ge 35, 3) := dk_get daX16_ripe 72 (r := (124, .if_icmp .ge 35, 3)) rfl
theorem dX16_ripe_127 : decode cX16_ripe 127 = .ok (.aload 4, 2) := dk_get daX16_ripe 73 (r := (127, .aload 4, 2)) rfl
theorem dX16_ripe_129 : decode cX16_ripe 129 = .ok (.iload 5, 2) := dk_get daX16_ripe 74 (r := (129, .iload 5, 2)) rfl
theorem dX16_ripe_131 : decode cX16_ripe 131 = .ok (.iload 8, 2) := dk_get daX16_ripe 75 (r := (131, .iload 8, 2)) rfl
theorem dX16_ripe_133 : decode cX16_ripe 133 = .ok (.iadd, 1) := dk_get daX16_ripe 76 (r := (133, .iadd, 1)) rfl
theorem dX16_ripe_134 : decode cX16_ripe 134 = .ok (.aload_n 0, 1) := dk_get daX16_ripe 77 (r := (134, .aload_n 0, 1)) rfl
theorem dX16_ripe_135 : decode cX16_ripe 135 = .ok (.getfield 19, 3) := dk_get daX16_ripe 78 (r := (135, .getfield 19, 3)) rfl
theorem dX16_ripe_138 : decode cX16_ripe 138 = .ok (.iload 8, 2) := dk_get daX16_ripe 79 (r := (138, .iload 8, 2)) rfl
theorem dX16_ripe_140 : decode cX16_ripe 140 = .ok (.iconst 4, 1) := dk_get daX16_ripe 80 (r := (140, .iconst 4, 1)) rfl
theorem dX16_ripe_141 : decode cX16_ripe 141 = .ok (.idiv, 1) := dk_get daX16_ripe 81 (r := (141, .idiv, 1)) rfl
theorem dX16_ripe_142 : decode cX16_ripe 142 = .ok (.iaload, 1) := dk_get daX16_ripe 82 (r := (142, .iaload, 1)) rfl
theorem dX16_ripe_143 : decode cX16_ripe 143 = .ok (.bipush 8, 2) := dk_get daX16_ripe 83 (r := (143, .bipush 8, 2)) rfl
theorem dX16_ripe_145 : decode cX16_ripe 145 = .ok (.iload 8, 2) := dk_get daX16_ripe 84 (r := (145, .iload 8, 2)) rfl
theorem dX16_ripe_147 : decode cX16_ripe 147 = .ok (.iconst 4, 1) := dk_get daX16_ripe 85 (r := (147, .iconst 4, 1)) rfl
theorem dX16_ripe_148 : decode cX16_ripe 148 = .ok (.irem, 1) := dk_get daX16_ripe 86 (r := (148, .irem, 1)) rfl
theorem dX16_ripe_149 : decode cX16_ripe 149 = .ok (.imul, 1) := dk_get daX16_ripe 87 (r := (149, .imul, 1)) rfl
theorem dX16_ripe_150 : decode cX16_ripe 150 = .ok (.iushr, 1) := dk_get daX16_ripe 88 (r := (150, .iushr, 1)) rfl
theorem dX16_ripe_151 : decode cX16_ripe 151 = .ok (.i2b, 1) := dk_get daX16_ripe 89 (r := (151, .i2b, 1)) rfl
theorem dX16_ripe_152 : decode cX16_ripe 152 = .ok (.bastore, 1) := dk_get daX16_ripe 90 (r := (152, .bastore, 1)) rfl
theorem dX16_ripe_153 : decode cX16_ripe 153 = .ok (.iinc 8 1, 3) := dk_get daX16_ripe 91 (r := (153, .iinc 8 1, 3)) rfl
theorem dX16_ripe_156 : decode cX16_ripe 156 = .ok (.goto (-36), 3) := dk_get daX16_ripe 92 (r := (156, .goto (-36), 3)) rfl
theorem dX16_ripe_159 : decode cX16_ripe 159 = .ok (.return_, 1) := dk_get daX16_ripe 93 (r := (159, .return_, 1)) rfl
abbrev mX16_ripeBlock : ks_M := (RX16, cX16_ripeBlock, 4, none, "ripeBlock")
def drX16_ripeBlock : List (Nat × Instr × Nat) := [(0, .iconst 0, 1), (1, .istore_n 3, 1), (2, .iload_n 3, 1), (3, .bipush 16, 2), (5, .if_icmp .ge 77, 3), (8, .aload_n 0, 1), (9, .getfield 38, 3), (12, .iload_n 3, 1), (13, .aload_n 1, 1), (14, .iload_n 2, 1), (15, .iconst 4, 1), (16, .iload_n 3, 1), (17, .imul, 1), (18, .iadd, 1), (19, .baload, 1), (20, .sipush 255, 3), (23, .iand, 1), (24, .aload_n 1, 1), (25, .iload_n 2, 1), (26, .iconst 4, 1), (27, .iload_n 3, 1), (28, .imul, 1), (29, .iadd, 1), (30, .iconst 1, 1), (31, .iadd, 1), (32, .baload, 1), (33, .sipush 255, 3), (36, .iand, 1), (37, .bipush 8, 2), (39, .ishl, 1), (40, .ior, 1), (41, .aload_n 1, 1), (42, .iload_n 2, 1), (43, .iconst 4, 1), (44, .iload_n 3, 1), (45, .imul, 1), (46, .iadd, 1), (47, .iconst 2, 1), (48, .iadd, 1), (49, .baload, 1), (50, .sipush 255, 3), (53, .iand, 1), (54, .bipush 16, 2), (56, .ishl, 1), (57, .ior, 1), (58, .aload_n 1, 1), (59, .iload_n 2, 1), (60, .iconst 4, 1), (61, .iload_n 3, 1), (62, .imul, 1), (63, .iadd, 1), (64, .iconst 3, 1), (65, .iadd, 1), (66, .baload, 1), (67, .sipush 255, 3), (70, .iand, 1), (71, .bipush 24, 2), (73, .ishl, 1), (74, .ior, 1), (75, .iastore, 1), (76, .iinc 3 1, 3), (79, .goto (-77), 3), (82, .iconst 0, 1), (83, .istore_n 3, 1), (84, .iload_n 3, 1), (85, .iconst 5, 1), (86, .if_icmp .ge 33, 3), (89, .aload_n 0, 1), (90, .getfield 61, 3), (93, .iload_n 3, 1), (94, .aload_n 0, 1), (95, .getfield 19, 3), (98, .iload_n 3, 1), (99, .iaload, 1), (100, .iastore, 1), (101, .aload_n 0, 1), (102, .getfield 64, 3), (105, .iload_n 3, 1), (106, .aload_n 0, 1), (107, .getfield 19, 3), (110, .iload_n 3, 1), (111, .iaload, 1), (112, .iastore, 1), (113, .iinc 3 1, 3), (116, .goto (-32), 3), (119, .iconst 0, 1), (120, .istore_n 3, 1), (121, .iload_n 3, 1), (122, .bipush 80, 2), (124, .if_icmp .ge 60, 3), (127, .aload_n 0, 1), (128, .aload_n 0, 1), (129, .getfield 61, 3), (132, .iload_n 3, 1), (133, .bipush 16, 2), (135, .idiv, 1), (136, .iload_n 3, 1), (137, .aload_n 0, 1), (138, .getfield 67, 3), (141, .iload_n 3, 1), (142, .bipush 16, 2), (144, .idiv, 1), (145, .iaload, 1), (146, .invokevirtual 70, 3), (149, .aload_n 0, 1), (150, .aload_n 0, 1), (151, .getfield 64, 3), (154, .iconst 4, 1), (155, .iload_n 3, 1), (156, .bipush 16, 2), (158, .idiv, 1), (159, .isub, 1), (160, .bipush 80, 2), (162, .iload_n 3, 1), (163, .iadd, 1), (164, .aload_n 0, 1), (165, .getfield 67, 3), (168, .iconst 5, 1), (169, .iload_n 3, 1), (170, .bipush 16, 2), (172, .idiv, 1), (173, .iadd, 1), (174, .iaload, 1), (175, .invokevirtual 70, 3), (178, .iinc 3 1, 3), (181, .goto (-60), 3), (184, .aload_n 0, 1), (185, .getfield 19, 3), (188, .iconst 1, 1), (189, .iaload, 1), (190, .aload_n 0, 1), (191, .getfield 61, 3), (194, .iconst 2, 1), (195, .iaload, 1), (196, .iadd, 1), (197, .aload_n 0, 1), (198, .getfield 64, 3), (201, .iconst 3, 1), (202, .iaload, 1), (203, .iadd, 1), (204, .istore_n 3, 1), (205, .aload_n 0, 1), (206, .getfield 19, 3), (209, .iconst 1, 1), (210, .aload_n 0, 1), (211, .getfield 19, 3), (214, .iconst 2, 1), (215, .iaload, 1), (216, .aload_n 0, 1), (217, .getfield 61, 3), (220, .iconst 3, 1), (221, .iaload, 1), (222, .iadd, 1), (223, .aload_n 0, 1), (224, .getfield 64, 3), (227, .iconst 4, 1), (228, .iaload, 1), (229, .iadd, 1), (230, .iastore, 1), (231, .aload_n 0, 1), (232, .getfield 19, 3), (235, .iconst 2, 1), (236, .aload_n 0, 1), (237, .getfield 19, 3), (240, .iconst 3, 1), (241, .iaload, 1), (242, .aload_n 0, 1), (243, .getfield 61, 3), (246, .iconst 4, 1), (247, .iaload, 1), (248, .iadd, 1), (249, .aload_n 0, 1), (250, .getfield 64, 3), (253, .iconst 0, 1), (254, .iaload, 1), (255, .iadd, 1), (256, .iastore, 1), (257, .aload_n 0, 1), (258, .getfield 19, 3), (261, .iconst 3, 1), (262, .aload_n 0, 1), (263, .getfield 19, 3), (266, .iconst 4, 1), (267, .iaload, 1), (268, .aload_n 0, 1), (269, .getfield 61, 3), (272, .iconst 0, 1), (273, .iaload, 1), (274, .iadd, 1), (275, .aload_n 0, 1), (276, .getfield 64, 3), (279, .iconst 1, 1), (280, .iaload, 1), (281, .iadd, 1), (282, .iastore, 1), (283, .aload_n 0, 1), (284, .getfield 19, 3), (287, .iconst 4, 1), (288, .aload_n 0, 1), (289, .getfield 19, 3), (292, .iconst 0, 1), (293, .iaload, 1), (294, .aload_n 0, 1), (295, .getfield 61, 3), (298, .iconst 1, 1), (299, .iaload, 1), (300, .iadd, 1), (301, .aload_n 0, 1), (302, .getfield 64, 3), (305, .iconst 2, 1), (306, .iaload, 1), (307, .iadd, 1), (308, .iastore, 1), (309, .aload_n 0, 1), (310, .getfield 19, 3), (313, .iconst 0, 1), (314, .iload_n 3, 1), (315, .iastore, 1), (316, .return_, 1)]
set_option maxRecDepth 100000 in
theorem daX16_ripeBlock : dk_all cX16_ripeBlock drX16_ripeBlock = true := by decide +kernel
theorem dX16_ripeBlock_0 : decode cX16_ripeBlock 0 = .ok (.iconst 0, 1) := dk_get daX16_ripeBlock 0 (r := (0, .iconst 0, 1)) rfl
theorem dX16_ripeBlock_1 : decode cX16_ripeBlock 1 = .ok (.istore_n 3, 1) := dk_get daX16_ripeBlock 1 (r := (1, .istore_n 3, 1)) rfl
theorem dX16_ripeBlock_2 : decode cX16_ripeBlock 2 = .ok (.iload_n 3, 1) := dk_get daX16_ripeBlock 2 (r := (2, .iload_n 3, 1)) rfl
theorem dX16_ripeBlock_3 : decode cX16_ripeBlock 3 = .ok (.bipush 16, 2) := dk_get daX16_ripeBlock 3 (r := (3, .bipush 16, 2)) rfl
theorem dX16_ripeBlock_5 : decode cX16_ripeBlock 5 = .ok (.if_icmp .ge 77, 3) := dk_get daX16_ripeBlock 4 (r := (5, .if_icmp .ge 77, 3)) rfl
theorem dX16_ripeBlock_8 : decode cX16_ripeBlock 8 = .ok (.aload_n 0, 1) := dk_get daX16_ripeBlock 5 (r := (8, .aload_n 0, 1)) rfl
theorem dX16_ripeBlock_9 : decode cX16_ripeBlock 9 = .ok (.getfield 38, 3) := dk_get daX16_ripeBlock 6 (r := (9, .getfield 38, 3)) rfl
theorem dX16_ripeBlock_12 : decode cX16_ripeBlock 12 = .ok (.iload_n 3, 1) := dk_get daX16_ripeBlock 7 (r := (12, .iload_n 3, 1)) rfl
theorem dX16_ripeBlock_13 : decode cX16_ripeBlock 13 = .ok (.aload_n 1, 1) := dk_get daX16_ripeBlock 8 (r := (13, .aload_n 1, 1)) rfl
theorem dX16_ripeBlock_14 : decode cX16_ripeBlock 14 = .ok (.iload_n 2, 1) := dk_get daX16_ripeBlock 9 (r := (14, .iload_n 2, 1)) rfl
theorem dX16_ripeBlock_15 : decode cX16_ripeBlock 15 = .ok (.iconst 4, 1) := dk_get daX16_ripeBlock 10 (r := (15, .iconst 4, 1)) rfl
theorem dX16_ripeBlock_16 : decode cX16_ripeBlock 16 = .ok (.iload_n 3, 1) := dk_get daX16_ripeBlock 11 (r := (16, .iload_n 3, 1)) rfl
theorem dX16_ripeBlock_17 : decode cX16_ripeBlock 17 = .ok (.imul, 1) := dk_get daX16_ripeBlock 12 (r := (17, .imul, 1)) rfl
theorem dX16_ripeBlock_18 : decode cX16_ripeBlock 18 = .ok (.iadd, 1) := dk_get daX16_ripeBlock 13 (r := (18, .iadd, 1)) rfl
theorem dX16_ripeBlock_19 : decode cX16_ripeBlock 19 = .ok (.baload, 1) := dk_get daX16_ripeBlock 14 (r := (19, .baload, 1)) rfl
theorem dX16_ripeBlock_20 : decode cX16_ripeBlock 20 = .ok (.sipush 255, 3) := dk_get daX16_ripeBlock 15 (r := (20, .sipush 255, 3)) rfl
theorem dX16_ripeBlock_23 : decode cX16_ripeBlock 23 = .ok (.iand, 1) := dk_get daX16_ripeBlock 16 (r := (23, .iand, 1)) rfl
theorem dX16_ripeBlock_24 : decode cX16_ripeBlock 24 = .ok (.aload_n 1, 1) := dk_get daX16_ripeBlock 17 (r := (24, .aload_n 1, 1)) rfl
theorem dX16_ripeBlock_25 : decode cX16_ripeBlock 25 = .ok (.iload_n 2, 1) := dk_get daX16_ripeBlock 18 (r := (25, .iload_n 2, 1)) rfl
theorem dX16_ripeBlock_26 : decode cX16_ripeBlock 26 = .ok (.iconst 4, 1) := dk_get daX16_ripeBlock 19 (r := (26, .iconst 4, 1)) rfl
theorem dX16_ripeBlock_27 : decode cX16_ripeBlock 27 = .ok (.iload_n 3, 1) := dk_get daX16_ripeBlock 20 (r := (27, .iload_n 3, 1)) rfl
theorem dX16_ripeBlock_28 : decode cX16_ripeBlock 28 = .ok (.imul, 1) := dk_get daX16_ripeBlock 21 (r := (28, .imul, 1)) rfl
theorem dX16_ripeBlock_29 : decode cX16_ripeBlock 29 = .ok (.iadd, 1) := dk_get daX16_ripeBlock 22 (r := (29, .iadd, 1)) rfl
theorem dX16_ripeBlock_30 : decode cX16_ripeBlock 30 = .ok (.iconst 1, 1) := dk_get daX16_ripeBlock 23 (r := (30, .iconst 1, 1)) rfl
theorem dX16_ripeBlock_31 : decode cX16_ripeBlock 31 = .ok (.iadd, 1) := dk_get daX16_ripeBlock 24 (r := (31, .iadd, 1)) rfl
theorem dX16_ripeBlock_32 : decode cX16_ripeBlock 32 = .ok (.baload, 1) := dk_get daX16_ripeBlock 25 (r := (32, .baload, 1)) rfl
theorem dX16_ripeBlock_33 : decode cX16_ripeBlock 33 = .ok (.sipush 255, 3) := dk_get daX16_ripeBlock 26 (r := (33, .sipush 255, 3)) rfl
theorem dX16_ripeBlock_36 : decode cX16_ripeBlock 36 = .ok (.iand, 1) := dk_get daX16_ripeBlock 27 (r := (36, .iand, 1)) rfl
theorem dX16_ripeBlock_37 : decode cX16_ripeBlock 37 = .ok (.bipush 8, 2) := dk_get daX16_ripeBlock 28 (r := (37, .bipush 8, 2)) rfl
theorem dX16_ripeBlock_39 : decode cX16_ripeBlock 39 = .ok (.ishl, 1) := dk_get daX16_ripeBlock 29 (r := (39, .ishl, 1)) rfl
theorem dX16_ripeBlock_40 : decode cX16_ripeBlock 40 = .ok (.ior, 1) := dk_get daX16_ripeBlock 30 (r := (40, .ior, 1)) rfl
theorem dX16_ripeBlock_41 : decode cX16_ripeBlock 41 = .ok (.aload_n 1, 1) := dk_get daX16_ripeBlock 31 (r := (41, .aload_n 1, 1)) rfl
theorem dX16_ripeBlock_42 : decode cX16_ripeBlock 42 = .ok (.iload_n 2, 1) := dk_get daX16_ripeBlock 32 (r := (42, .iload_n 2, 1)) rfl
theorem dX16_ripeBlock_43 : decode cX16_ripeBlock 43 = .ok (.iconst 4, 1) := dk_get daX16_ripeBlock 33 (r := (43, .iconst 4, 1)) rfl
theorem dX16_ripeBlock_44 : decode cX16_ripeBlock 44 = .ok (.iload_n 3, 1) := dk_get daX16_ripeBlock 34 (r := (44, .iload_n 3, 1)) rfl
theorem dX16_ripeBlock_45 : decode cX16_ripeBlock 45 = .ok (.imul, 1) := dk_get daX16_ripeBlock 35 (r := (45, .imul, 1)) rfl
theorem dX16_ripeBlock_46 : decode cX16_ripeBlock 46 = .ok (.iadd, 1) := dk_get daX16_ripeBlock 36 (r := (46, .iadd, 1)) rfl
theorem dX16_ripeBlock_47 : decode cX16_ripeBlock 47 = .ok (.iconst 2, 1) := dk_get daX16_ripeBlock 37 (r := (47, .iconst 2, 1)) rfl
theorem dX16_ripeBlock_48 : decode cX16_ripeBlock 48 = .ok (.iadd, 1) := dk_get daX16_ripeBlock 38 (r := (48, .iadd, 1)) rfl
theorem dX16_ripeBlock_49 : decode cX16_ripeBlock 49 = .ok (.baload, 1) := dk_get daX16_ripeBlock 39 (r := (49, .baload, 1)) rfl
theorem dX16_ripeBlock_50 : decode cX16_ripeBlock 50 = .ok (.sipush 255, 3) := dk_get daX16_ripeBlock 40 (r := (50, .sipush 255, 3)) rfl
theorem dX16_ripeBlock_53 : decode cX16_ripeBlock 53 = .ok (.iand, 1) := dk_get daX16_ripeBlock 41 (r := (53, .iand, 1)) rfl
theorem dX16_ripeBlock_54 : decode cX16_ripeBlock 54 = .ok (.bipush 16, 2) := dk_get daX16_ripeBlock 42 (r := (54, .bipush 16, 2)) rfl
theorem dX16_ripeBlock_56 : decode cX16_ripeBlock 56 = .ok (.ishl, 1) := dk_get daX16_ripeBlock 43 (r := (56, .ishl, 1)) rfl
theorem dX16_ripeBlock_57 : decode cX16_ripeBlock 57 = .ok (.ior, 1) := dk_get daX16_ripeBlock 44 (r := (57, .ior, 1)) rfl
theorem dX16_ripeBlock_58 : decode cX16_ripeBlock 58 = .ok (.aload_n 1, 1) := dk_get daX16_ripeBlock 45 (r := (58, .aload_n 1, 1)) rfl
theorem dX16_ripeBlock_59 : decode cX16_ripeBlock 59 = .ok (.iload_n 2, 1) := dk_get daX16_ripeBlock 46 (r := (59, .iload_n 2, 1)) rfl
theorem dX16_ripeBlock_60 : decode cX16_ripeBlock 60 = .ok (.iconst 4, 1) := dk_get daX16_ripeBlock 47 (r := (60, .iconst 4, 1)) rfl
theorem dX16_ripeBlock_61 : decode cX16_ripeBlock 61 = .ok (.iload_n 3, 1) := dk_get daX16_ripeBlock 48 (r := (61, .iload_n 3, 1)) rfl
theorem dX16_ripeBlock_62 : decode cX16_ripeBlock 62 = .ok (.imul, 1) := dk_get daX16_ripeBlock 49 (r := (62, .imul, 1)) rfl
theorem dX16_ripeBlock_63 : decode cX16_ripeBlock 63 = .ok (.iadd, 1) := dk_get daX16_ripeBlock 50 (r := (63, .iadd, 1)) rfl
theorem dX16_ripeBlock_64 : decode cX16_ripeBlock 64 = .ok (.iconst 3, 1) := dk_get daX16_ripeBlock 51 (r := (64, .iconst 3, 1)) rfl
theorem dX16_ripeBlock_65 : decode cX16_ripeBlock 65 = .ok (.iadd, 1) := dk_get daX16_ripeBlock 52 (r := (65, .iadd, 1)) rfl
theorem dX16_ripeBlock_66 : decode cX16_ripeBlock 66 = .ok (.baload, 1) := dk_get daX16_ripeBlock 53 (r := (66, .baload, 1)) rfl
theorem dX16_ripeBlock_67 : decode cX16_ripeBlock 67 = .ok (.sipush 255, 3) := dk_get daX16_ripeBlock 54 (r := (67, .sipush 255, 3)) rfl
theorem dX16_ripeBlock_70 : decode cX16_ripeBlock 70 = .ok (.iand, 1) := dk_get daX16_ripeBlock 55 (r := (70, .iand, 1)) rfl
theorem dX16_ripeBlock_71 : decode cX16_ripeBlock 71 = .ok (.bipush 24, 2) := dk_get daX16_ripeBlock 56 (r := (71, .bipush 24, 2)) rfl
theorem dX16_ripeBlock_73 : decode cX16_ripeBlock 73 = .ok (.ishl, 1) := dk_get daX16_ripeBlock 57 (r := (73, .ishl, 1)) rfl
theorem dX16_ripeBlock_74 : decode cX16_ripeBlock 74 = .ok (.ior, 1) := dk_get daX16_ripeBlock 58 (r := (74, .ior, 1)) rfl
theorem dX16_ripeBlock_75 : decode cX16_ripeBlock 75 = .ok (.iastore, 1) := dk_get daX16_ripeBlock 59 (r := (75, .iastore, 1)) rfl
theorem dX16_ripeBlock_76 : decode cX16_ripeBlock 76 = .ok (.iinc 3 1, 3) := dk_get daX16_ripeBlock 60 (r := (76, .iinc 3 1, 3)) rfl
theorem dX16_ripeBlock_79 : decode cX16_ripeBlock 79 = .ok (.goto (-77), 3) := dk_get daX16_ripeBlock 61 (r := (79, .goto (-77), 3)) rfl
theorem dX16_ripeBlock_82 : decode cX16_ripeBlock 82 = .ok (.iconst 0, 1) := dk_get daX16_ripeBlock 62 (r := (82, .iconst 0, 1)) rfl
theorem dX16_ripeBlock_83 : decode cX16_ripeBlock 83 = .ok (.istore_n 3, 1) := dk_get daX16_ripeBlock 63 (r := (83, .istore_n 3, 1)) rfl
theorem dX16_ripeBlock_84 : decode cX16_ripeBlock 84 = .ok (.iload_n 3, 1) := dk_get daX16_ripeBlock 64 (r := (84, .iload_n 3, 1)) rfl
theorem dX16_ripeBlock_85 : decode cX16_ripeBlock 85 = .ok (.iconst 5, 1) := dk_get daX16_ripeBlock 65 (r := (85, .iconst 5, 1)) rfl
theorem dX16_ripeBlock_86 : decode cX16_ripeBlock 86 = .ok (.if_icmp .ge 33, 3) := dk_get daX16_ripeBlock 66 (r := (86, .if_icmp .ge 33, 3)) rfl
theorem dX16_ripeBlock_89 : decode cX16_ripeBlock 89 = .ok (.aload_n 0, 1) := dk_get daX16_ripeBlock 67 (r := (89, .aload_n 0, 1)) rfl
theorem dX16_ripeBlock_90 : decode cX16_ripeBlock 90 = .ok (.getfield 61, 3) := dk_get daX16_ripeBlock 68 (r := (90, .getfield 61, 3)) rfl
theorem dX16_ripeBlock_93 : decode cX16_ripeBlock 93 = .ok (.iload_n 3, 1) := dk_get daX16_ripeBlock 69 (r := (93, .iload_n 3, 1)) rfl
theorem dX16_ripeBlock_94 : decode cX16_ripeBlock 94 = .ok (.aload_n 0, 1) := dk_get daX16_ripeBlock 70 (r := (94, .aload_n 0, 1)) rfl
theorem dX16_ripeBlock_95 : decode cX16_ripeBlock 95 = .ok (.getfield 19, 3) := dk_get daX16_ripeBlock 71 (r := (95, .getfield 19, 3)) rfl
theorem dX16_ripeBlock_98 : decode cX16_ripeBlock 98 = .ok (.iload_n 3, 1) := dk_get daX16_ripeBlock 72 (r := (98, .iload_n 3, 1)) rfl
theorem dX16_ripeBlock_99 : decode cX16_ripeBlock 99 = .ok (.iaload, 1) := dk_get daX16_ripeBlock 73 (r := (99, .iaload, 1)) rfl
theorem dX16_ripeBlock_100 : decode cX16_ripeBlock 100 = .ok (.iastore, 1) := dk_get daX16_ripeBlock 74 (r := (100, .iastore, 1)) rfl
theorem dX16_ripeBlock_101 : decode cX16_ripeBlock 101 = .ok (.aload_n 0, 1) := dk_get daX16_ripeBlock 75 (r := (101, .aload_n 0, 1)) rfl
theorem dX16_ripeBlock_102 : decode cX16_ripeBlock 102 = .ok (.getfield 64, 3) := dk_get daX16_ripeBlock 76 (r := (102, .getfield 64, 3)) rfl
theorem dX16_ripeBlock_105 : decode cX16_ripeBlock 105 = .ok (.iload_n 3, 1) := dk_get daX16_ripeBlock 77 (r := (105, .iload_n 3, 1)) rfl
theorem dX16_ripeBlock_106 : decode cX16_ripeBlock 106 = .ok (.aload_n 0, 1) := dk_get daX16_ripeBlock 78 (r := (106, .aload_n 0, 1)) rfl
theorem dX16_ripeBlock_107 : decode cX16_ripeBlock 107 = .ok (.getfield 19, 3) := dk_get daX16_ripeBlock 79 (r := (107, .getfield 19, 3)) rfl
theorem dX16_ripeBlock_110 : decode cX16_ripeBlock 110 = .ok (.iload_n 3, 1) := dk_get daX16_ripeBlock 80 (r := (110, .iload_n 3, 1)) rfl
theorem dX16_ripeBlock_111 : decode cX16_ripeBlock 111 = .ok (.iaload, 1) := dk_get daX16_ripeBlock 81 (r := (111, .iaload, 1)) rfl
theorem dX16_ripeBlock_112 : decode cX16_ripeBlock 112 = .ok (.iastore, 1) := dk_get daX16_ripeBlock 82 (r := (112, .iastore, 1)) rfl
theorem dX16_ripeBlock_113 : decode cX16_ripeBlock 113 = .ok (.iinc 3 1, 3) := dk_get daX16_ripeBlock 83 (r := (113, .iinc 3 1, 3)) rfl
theorem dX16_ripeBlock_116 : decode cX16_ripeBlock 116 = .ok (.goto (-32), 3) := dk_get daX16_ripeBlock 84 (r := (116, .goto (-32), 3)) rfl
theorem dX16_ripeBlock_119 : decode cX16_ripeBlock 119 = .ok (.iconst 0, 1) := dk_get daX16_ripeBlock 85 (r := (119, .iconst 0, 1)) rfl
theorem dX16_ripeBlock_120 : decode cX16_ripeBlock 120 = .ok (.istore_n 3, 1) := dk_get daX16_ripeBlock 86 (r := (120, .istore_n 3, 1)) rfl
theorem dX16_ripeBlock_121 : decode cX16_ripeBlock 121 = .ok (.iload_n 3, 1) := dk_get daX16_ripeBlock 87 (r := (121, .iload_n 3, 1)) rfl
theorem dX16_ripeBlock_122 : decode cX16_ripeBlock 122 = .ok (.bipush 80, 2) := dk_get daX16_ripeBlock 88 (r := (122, .bipush 80, 2)) rfl
theorem dX16_ripeBlock_124 : decode cX16_ripeBlock 124 = .ok (.if_icmp .ge 60, 3) := dk_get daX16_ripeBlock 89 (r := (124, .if_icmp .ge 60, 3)) rfl
theorem dX16_ripeBlock_127 : decode cX16_ripeBlock 127 = .ok (.aload_n 0, 1) := dk_get daX16_ripeBlock 90 (r := (127, .aload_n 0, 1)) rfl
theorem dX16_ripeBlock_128 : decode cX16_ripeBlock 128 = .ok (.aload_n 0, 1) := dk_get daX16_ripeBlock 91 (r := (128, .aload_n 0, 1)) rfl
theorem dX16_ripeBlock_129 : decode cX16_ripeBlock 129 = .ok (.getfield 61, 3) := dk_get daX16_ripeBlock 92 (r := (129, .getfield 61, 3)) rfl
theorem dX16_ripeBlock_132 : decode cX16_ripeBlock 132 = .ok (.iload_n 3, 1) := dk_get daX16_ripeBlock 93 (r := (132, .iload_n 3, 1)) rfl
theorem dX16_ripeBlock_133 : decode cX16_ripeBlock 133 = .ok (.bipush 16, 2) := dk_get daX16_ripeBlock 94 (r := (133, .bipush 16, 2)) rfl
theorem dX16_ripeBlock_135 : decode cX16_ripeBlock 135 = .ok (.idiv, 1) := dk_get daX16_ripeBlock 95 (r := (135, .idiv, 1)) rfl
theorem dX16_ripeBlock_136 : decode cX16_ripeBlock 136 = .ok (.iload_n 3, 1) := dk_get daX16_ripeBlock 96 (r := (136, .iload_n 3, 1)) rfl
theorem dX16_ripeBlock_137 : decode cX16_ripeBlock 137 = .ok (.aload_n 0, 1) := dk_get daX16_ripeBlock 97 (r := (137, .aload_n 0, 1)) rfl
theorem dX16_ripeBlock_138 : decode cX16_ripeBlock 138 = .ok (.getfield 67, 3) := dk_get daX16_ripeBlock 98 (r := (138, .getfield 67, 3)) rfl
theorem dX16_ripeBlock_141 : decode cX16_ripeBlock 141 = .ok (.iload_n 3, 1) := dk_get daX16_ripeBlock 99 (r := (141, .iload_n 3, 1)) rfl
theorem dX16_ripeBlock_142 : decode cX16_ripeBlock 142 = .ok (.bipush 16, 2) := dk_get daX16_ripeBlock 100 (r := (142, .bipush 16, 2)) rfl
theorem dX16_ripeBlock_144 : decode cX16_ripeBlock 144 = .ok (.idiv, 1) := dk_get daX16_ripeBlock 101 (r := (144, .idiv, 1)) rfl
theorem dX16_ripeBlock_145 : decode cX16_ripeBlock 145 = .ok (.iaload, 1) := dk_get daX16_ripeBlock 102 (r := (145, .iaload, 1)) rfl
theorem dX16_ripeBlock_146 : decode cX16_ripeBlock 146 = .ok (.invokevirtual 70, 3) := dk_get daX16_ripeBlock 103 (r := (146, .invokevirtual 70, 3)) rfl
theorem dX16_ripeBlock_149 : decode cX16_ripeBlock 149 = .ok (.aload_n 0, 1) := dk_get daX16_ripeBlock 104 (r := (149, .aload_n 0, 1)) rfl
theorem dX16_ripeBlock_150 : decode cX16_ripeBlock 150 = .ok (.aload_n 0, 1) := dk_get daX16_ripeBlock 105 (r := (150, .aload_n 0, 1)) rfl
theorem dX16_ripeBlock_151 : decode cX16_ripeBlock 151 = .ok (.getfield 64, 3) := dk_get daX16_ripeBlock 106 (r := (151, .getfield 64, 3)) rfl
theorem dX16_ripeBlock_154 : decode cX16_ripeBlock 154 = .ok (.iconst 4, 1) := dk_get daX16_ripeBlock 107 (r := (154, .iconst 4, 1)) rfl
theorem dX16_ripeBlock_155 : decode cX16_ripeBlock 155 = .ok (.iload_n 3, 1) := dk_get daX16_ripeBlock 108 (r := (155, .iload_n 3, 1)) rfl
theorem dX16_ripeBlock_156 : decode cX16_ripeBlock 156 = .ok (.bipush 16, 2) := dk_get daX16_ripeBlock 109 (r := (156, .bipush 16, 2)) rfl
theorem dX16_ripeBlock_158 : decode cX16_ripeBlock 158 = .ok (.idiv, 1) := dk_get daX16_ripeBlock 110 (r := (158, .idiv, 1)) rfl
theorem dX16_ripeBlock_159 : decode cX16_ripeBlock 159 = .ok (.isub, 1) := dk_get daX16_ripeBlock 111 (r := (159, .isub, 1)) rfl
theorem dX16_ripeBlock_160 : decode cX16_ripeBlock 160 = .ok (.bipush 80, 2) := dk_get daX16_ripeBlock 112 (r := (160, .bipush 80, 2)) rfl
theorem dX16_ripeBlock_162 : decode cX16_ripeBlock 162 = .ok (.iload_n 3, 1) := dk_get daX16_ripeBlock 113 (r := (162, .iload_n 3, 1)) rfl
theorem dX16_ripeBlock_163 : decode cX16_ripeBlock 163 = .ok (.iadd, 1) := dk_get daX16_ripeBlock 114 (r := (163, .iadd, 1)) rfl
theorem dX16_ripeBlock_164 : decode cX16_ripeBlock 164 = .ok (.aload_n 0, 1) := dk_get daX16_ripeBlock 115 (r := (164, .aload_n 0, 1)) rfl
theorem dX16_ripeBlock_165 : decode cX16_ripeBlock 165 = .ok (.getfield 67, 3) := dk_get daX16_ripeBlock 116 (r := (165, .getfield 67, 3)) rfl
theorem dX16_ripeBlock_168 : decode cX16_ripeBlock 168 = .ok (.iconst 5, 1) := dk_get daX16_ripeBlock 117 (r := (168, .iconst 5, 1)) rfl
theorem dX16_ripeBlock_169 : decode cX16_ripeBlock 169 = .ok (.iload_n 3, 1) := dk_get daX16_ripeBlock 118 (r := (169, .iload_n 3, 1)) rfl
theorem dX16_ripeBlock_170 : decode cX16_ripeBlock 170 = .ok (.bipush 16, 2) := dk_get daX16_ripeBlock 119 (r := (170, .bipush 16, 2)) rfl
theorem dX16_ripeBlock_172 : decode cX16_ripeBlock 172 = .ok (.idiv, 1) := dk_get daX16_ripeBlock 120 (r := (172, .idiv, 1)) rfl
theorem dX16_ripeBlock_173 : decode cX16_ripeBlock 173 = .ok (.iadd, 1) := dk_get daX16_ripeBlock 121 (r := (173, .iadd, 1)) rfl
theorem dX16_ripeBlock_174 : decode cX16_ripeBlock 174 = .ok (.iaload, 1) := dk_get daX16_ripeBlock 122 (r := (174, .iaload, 1)) rfl
theorem dX16_ripeBlock_175 : decode cX16_ripeBlock 175 = .ok (.invokevirtual 70, 3) := dk_get daX16_ripeBlock 123 (r := (175, .invokevirtual 70, 3)) rfl
theorem dX16_ripeBlock_178 : decode cX16_ripeBlock 178 = .ok (.iinc 3 1, 3) := dk_get daX16_ripeBlock 124 (r := (178, .iinc 3 1, 3)) rfl
theorem dX16_ripeBlock_181 : decode cX16_ripeBlock 181 = .ok (.goto (-60), 3) := dk_get daX16_ripeBlock 125 (r := (181, .goto (-60), 3)) rfl
theorem dX16_ripeBlock_184 : decode cX16_ripeBlock 184 = .ok (.aload_n 0, 1) := dk_get daX16_ripeBlock 126 (r := (184, .aload_n 0, 1)) rfl
theorem dX16_ripeBlock_185 : decode cX16_ripeBlock 185 = .ok (.getfield 19, 3) := dk_get daX16_ripeBlock 127 (r := (185, .getfield 19, 3)) rfl
theorem dX16_ripeBlock_188 : decode cX16_ripeBlock 188 = .ok (.iconst 1, 1) := dk_get daX16_ripeBlock 128 (r := (188, .iconst 1, 1)) rfl
theorem dX16_ripeBlock_189 : decode cX16_ripeBlock 189 = .ok (.iaload, 1) := dk_get daX16_ripeBlock 129 (r := (189, .iaload, 1)) rfl
theorem dX16_ripeBlock_190 : decode cX16_ripeBlock 190 = .ok (.aload_n 0, 1) := dk_get daX16_ripeBlock 130 (r := (190, .aload_n 0, 1)) rfl
theorem dX16_ripeBlock_191 : decode cX16_ripeBlock 191 = .ok (.getfield 61, 3) := dk_get daX16_ripeBlock 131 (r := (191, .getfield 61, 3)) rfl
theorem dX16_ripeBlock_194 : decode cX16_ripeBlock 194 = .ok (.iconst 2, 1) := dk_get daX16_ripeBlock 132 (r := (194, .iconst 2, 1)) rfl
theorem dX16_ripeBlock_195 : decode cX16_ripeBlock 195 = .ok (.iaload, 1) := dk_get daX16_ripeBlock 133 (r := (195, .iaload, 1)) rfl
theorem dX16_ripeBlock_196 : decode cX16_ripeBlock 196 = .ok (.iadd, 1) := dk_get daX16_ripeBlock 134 (r := (196, .iadd, 1)) rfl
theorem dX16_ripeBlock_197 : decode cX16_ripeBlock 197 = .ok (.aload_n 0, 1) := dk_get daX16_ripeBlock 135 (r := (197, .aload_n 0, 1)) rfl
theorem dX16_ripeBlock_198 : decode cX16_ripeBlock 198 = .ok (.getfield 64, 3) := dk_get daX16_ripeBlock 136 (r := (198, .getfield 64, 3)) rfl
theorem dX16_ripeBlock_201 : decode cX16_ripeBlock 201 = .ok (.iconst 3, 1) := dk_get daX16_ripeBlock 137 (r := (201, .iconst 3, 1)) rfl
theorem dX16_ripeBlock_202 : decode cX16_ripeBlock 202 = .ok (.iaload, 1) := dk_get daX16_ripeBlock 138 (r := (202, .iaload, 1)) rfl
theorem dX16_ripeBlock_203 : decode cX16_ripeBlock 203 = .ok (.iadd, 1) := dk_get daX16_ripeBlock 139 (r := (203, .iadd, 1)) rfl
theorem dX16_ripeBlock_204 : decode cX16_ripeBlock 204 = .ok (.istore_n 3, 1) := dk_get daX16_ripeBlock 140 (r := (204, .istore_n 3, 1)) rfl
theorem dX16_ripeBlock_205 : decode cX16_ripeBlock 205 = .ok (.aload_n 0, 1) := dk_get daX16_ripeBlock 141 (r := (205, .aload_n 0, 1)) rfl
theorem dX16_ripeBlock_206 : decode cX16_ripeBlock 206 = .ok (.getfield 19, 3) := dk_get daX16_ripeBlock 142 (r := (206, .getfield 19, 3)) rfl
theorem dX16_ripeBlock_209 : decode cX16_ripeBlock 209 = .ok (.iconst 1, 1) := dk_get daX16_ripeBlock 143 (r := (209, .iconst 1, 1)) rfl
theorem dX16_ripeBlock_210 : decode cX16_ripeBlock 210 = .ok (.aload_n 0, 1) := dk_get daX16_ripeBlock 144 (r := (210, .aload_n 0, 1)) rfl
theorem dX16_ripeBlock_211 : decode cX16_ripeBlock 211 = .ok (.getfield 19, 3) := dk_get daX16_ripeBlock 145 (r := (211, .getfield 19, 3)) rfl
theorem dX16_ripeBlock_214 : decode cX16_ripeBlock 214 = .ok (.iconst 2, 1) := dk_get daX16_ripeBlock 146 (r := (214, .iconst 2, 1)) rfl
theorem dX16_ripeBlock_215 : decode cX16_ripeBlock 215 = .ok (.iaload, 1) := dk_get daX16_ripeBlock 147 (r := (215, .iaload, 1)) rfl
theorem dX16_ripeBlock_216 : decode cX16_ripeBlock 216 = .ok (.aload_n 0, 1) := dk_get daX16_ripeBlock 148 (r := (216, .aload_n 0, 1)) rfl
theorem dX16_ripeBlock_217 : decode cX16_ripeBlock 217 = .ok (.getfield 61, 3) := dk_get daX16_ripeBlock 149 (r := (217, .getfield 61, 3)) rfl
theorem dX16_ripeBlock_220 : decode cX16_ripeBlock 220 = .ok (.iconst 3, 1) := dk_get daX16_ripeBlock 150 (r := (220, .iconst 3, 1)) rfl
theorem dX16_ripeBlock_221 : decode cX16_ripeBlock 221 = .ok (.iaload, 1) := dk_get daX16_ripeBlock 151 (r := (221, .iaload, 1)) rfl
theorem dX16_ripeBlock_222 : decode cX16_ripeBlock 222 = .ok (.iadd, 1) := dk_get daX16_ripeBlock 152 (r := (222, .iadd, 1)) rfl
theorem dX16_ripeBlock_223 : decode cX16_ripeBlock 223 = .ok (.aload_n 0, 1) := dk_get daX16_ripeBlock 153 (r := (223, .aload_n 0, 1)) rfl
theorem dX16_ripeBlock_224 : decode cX16_ripeBlock 224 = .ok (.getfield 64, 3) := dk_get daX16_ripeBlock 154 (r := (224, .getfield 64, 3)) rfl
theorem dX16_ripeBlock_227 : decode cX16_ripeBlock 227 = .ok (.iconst 4, 1) := dk_get daX16_ripeBlock 155 (r := (227, .iconst 4, 1)) rfl
theorem dX16_ripeBlock_228 : decode cX16_ripeBlock 228 = .ok (.iaload, 1) := dk_get daX16_ripeBlock 156 (r := (228, .iaload, 1)) rfl
theorem dX16_ripeBlock_229 : decode cX16_ripeBlock 229 = .ok (.iadd, 1) := dk_get daX16_ripeBlock 157 (r := (229, .iadd, 1)) rfl
theorem dX16_ripeBlock_230 : decode cX16_ripeBlock 230 = .ok (.iastore, 1) := dk_get daX16_ripeBlock 158 (r := (230, .iastore, 1)) rfl
theorem dX16_ripeBlock_231 : decode cX16_ripeBlock 231 = .ok (.aload_n 0, 1) := dk_get daX16_ripeBlock 159 (r := (231, .aload_n 0, 1)) rfl
theorem dX16_ripeBlock_232 : decode cX16_ripeBlock 232 = .ok (.getfield 19, 3) := dk_get daX16_ripeBlock 160 (r := (232, .getfield 19, 3)) rfl
theorem dX16_ripeBlock_235 : decode cX16_ripeBlock 235 = .ok (.iconst 2, 1) := dk_get daX16_ripeBlock 161 (r := (235, .iconst 2, 1)) rfl
theorem dX16_ripeBlock_236 : decode cX16_ripeBlock 236 = .ok (.aload_n 0, 1) := dk_get daX16_ripeBlock 162 (r := (236, .aload_n 0, 1)) rfl
theorem dX16_ripeBlock_237 : decode cX16_ripeBlock 237 = .ok (.getfield 19, 3) := dk_get daX16_ripeBlock 163 (r := (237, .getfield 19, 3)) rfl
theorem dX16_ripeBlock_240 : decode cX16_ripeBlock 240 = .ok (.iconst 3, 1) := dk_get daX16_ripeBlock 164 (r := (240, .iconst 3, 1)) rfl
theorem dX16_ripeBlock_241 : decode cX16_ripeBlock 241 = .ok (.iaload, 1) := dk_get daX16_ripeBlock 165 (r := (241, .iaload, 1)) rfl
theorem dX16_ripeBlock_242 : decode cX16_ripeBlock 242 = .ok (.aload_n 0, 1) := dk_get daX16_ripeBlock 166 (r := (242, .aload_n 0, 1)) rfl
theorem dX16_ripeBlock_243 : decode cX16_ripeBlock 243 = .ok (.getfield 61, 3) := dk_get daX16_ripeBlock 167 (r := (243, .getfield 61, 3)) rfl
theorem dX16_ripeBlock_246 : decode cX16_ripeBlock 246 = .ok (.iconst 4, 1) := dk_get daX16_ripeBlock 168 (r := (246, .iconst 4, 1)) rfl
theorem dX16_ripeBlock_247 : decode cX16_ripeBlock 247 = .ok (.iaload, 1) := dk_get daX16_ripeBlock 169 (r := (247, .iaload, 1)) rfl
theorem dX16_ripeBlock_248 : decode cX16_ripeBlock 248 = .ok (.iadd, 1) := dk_get daX16_ripeBlock 170 (r := (248, .iadd, 1)) rfl
theorem dX16_ripeBlock_249 : decode cX16_ripeBlock 249 = .ok (.aload_n 0, 1) := dk_get daX16_ripeBlock 171 (r := (249, .aload_n 0, 1)) rfl
theorem dX16_ripeBlock_250 : decode cX16_ripeBlock 250 = .ok (.getfield 64, 3) := dk_get daX16_ripeBlock 172 (r := (250, .getfield 64, 3)) rfl
theorem dX16_ripeBlock_253 : decode cX16_ripeBlock 253 = .ok (.iconst 0, 1) := dk_get daX16_ripeBlock 173 (r := (253, .iconst 0, 1)) rfl
theorem dX16_ripeBlock_254 : decode cX16_ripeBlock 254 = .ok (.iaload, 1) := dk_get daX16_ripeBlock 174 (r := (254, .iaload, 1)) rfl
theorem dX16_ripeBlock_255 : decode cX16_ripeBlock 255 = .ok (.iadd, 1) := dk_get daX16_ripeBlock 175 (r := (255, .iadd, 1)) rfl
theorem dX16_ripeBlock_256 : decode cX16_ripeBlock 256 = .ok (.iastore, 1) := dk_get daX16_ripeBlock 176 (r := (256, .iastore, 1)) rfl
theorem dX16_ripeBlock_257 : decode cX16_ripeBlock 257 = .ok (.aload_n 0, 1) := dk_get daX16_ripeBlock 177 (r := (257, .aload_n 0, 1)) rfl
theorem dX16_ripeBlock_258 : decode cX16_ripeBlock 258 = .ok (.getfield 19, 3) := dk_get daX16_ripeBlock 178 (r := (258, .getfield 19, 3)) rfl
theorem dX16_ripeBlock_261 : decode cX16_ripeBlock 261 = .ok (.iconst 3, 1) := dk_get daX16_ripeBlock 179 (r := (261, .iconst 3, 1)) rfl
theorem dX16_ripeBlock_262 : decode cX16_ripeBlock 262 = .ok (.aload_n 0, 1) := dk_get daX16_ripeBlock 180 (r := (262, .aload_n 0, 1)) rfl
theorem dX16_ripeBlock_263 : decode cX16_ripeBlock 263 = .ok (.getfield 19, 3) := dk_get daX16_ripeBlock 181 (r := (263, .getfield 19, 3)) rfl
theorem dX16_ripeBlock_266 : decode cX16_ripeBlock 266 = .ok (.iconst 4, 1) := dk_get daX16_ripeBlock 182 (r := (266, .iconst 4, 1)) rfl
theorem dX16_ripeBlock_267 : decode cX16_ripeBlock 267 = .ok (.iaload, 1) := dk_get daX16_ripeBlock 183 (r := (267, .iaload, 1)) rfl
theorem dX16_ripeBlock_268 : decode cX16_ripeBlock 268 = .ok (.aload_n 0, 1) := dk_get daX16_ripeBlock 184 (r := (268, .aload_n 0, 1)) rfl
theorem dX16_ripeBlock_269 : decode cX16_ripeBlock 269 = .ok (.getfield 61, 3) := dk_get daX16_ripeBlock 185 (r := (269, .getfield 61, 3)) rfl
theorem dX16_ripeBlock_272 : decode cX16_ripeBlock 272 = .ok (.iconst 0, 1) := dk_get daX16_ripeBlock 186 (r := (272, .iconst 0, 1)) rfl
theorem dX16_ripeBlock_273 : decode cX16_ripeBlock 273 = .ok (.iaload, 1) := dk_get daX16_ripeBlock 187 (r := (273, .iaload, 1)) rfl
theorem dX16_ripeBlock_274 : decode cX16_ripeBlock 274 = .ok (.iadd, 1) := dk_get daX16_ripeBlock 188 (r := (274, .iadd, 1)) rfl
theorem dX16_ripeBlock_275 : decode cX16_ripeBlock 275 = .ok (.aload_n 0, 1) := dk_get daX16_ripeBlock 189 (r := (275, .aload_n 0, 1)) rfl
theorem dX16_ripeBlock_276 : decode cX16_ripeBlock 276 = .ok (.getfield 64, 3) := dk_get daX16_ripeBlock 190 (r := (276, .getfield 64, 3)) rfl
theorem dX16_ripeBlock_279 : decode cX16_ripeBlock 279 = .ok (.iconst 1, 1) := dk_get daX16_ripeBlock 191 (r := (279, .iconst 1, 1)) rfl
theorem dX16_ripeBlock_280 : decode cX16_ripeBlock 280 = .ok (.iaload, 1) := dk_get daX16_ripeBlock 192 (r := (280, .iaload, 1)) rfl
theorem dX16_ripeBlock_281 : decode cX16_ripeBlock 281 = .ok (.iadd, 1) := dk_get daX16_ripeBlock 193 (r := (281, .iadd, 1)) rfl
theorem dX16_ripeBlock_282 : decode cX16_ripeBlock 282 = .ok (.iastore, 1) := dk_get daX16_ripeBlock 194 (r := (282, .iastore, 1)) rfl
theorem dX16_ripeBlock_283 : decode cX16_ripeBlock 283 = .ok (.aload_n 0, 1) := dk_get daX16_ripeBlock 195 (r := (283, .aload_n 0, 1)) rfl
theorem dX16_ripeBlock_284 : decode cX16_ripeBlock 284 = .ok (.getfield 19, 3) := dk_get daX16_ripeBlock 196 (r := (284, .getfield 19, 3)) rfl
theorem dX16_ripeBlock_287 : decode cX16_ripeBlock 287 = .ok (.iconst 4, 1) := dk_get daX16_ripeBlock 197 (r := (287, .iconst 4, 1)) rfl
theorem dX16_ripeBlock_288 : decode cX16_ripeBlock 288 = .ok (.aload_n 0, 1) := dk_get daX16_ripeBlock 198 (r := (288, .aload_n 0, 1)) rfl
theorem dX16_ripeBlock_289 : decode cX16_ripeBlock 289 = .ok (.getfield 19, 3) := dk_get daX16_ripeBlock 199 (r := (289, .getfield 19, 3)) rfl
theorem dX16_ripeBlock_292 : decode cX16_ripeBlock 292 = .ok (.iconst 0, 1) := dk_get daX16_ripeBlock 200 (r := (292, .iconst 0, 1)) rfl
theorem dX16_ripeBlock_293 : decode cX16_ripeBlock 293 = .ok (.iaload, 1) := dk_get daX16_ripeBlock 201 (r := (293, .iaload, 1)) rfl
theorem dX16_ripeBlock_294 : decode cX16_ripeBlock 294 = .ok (.aload_n 0, 1) := dk_get daX16_ripeBlock 202 (r := (294, .aload_n 0, 1)) rfl
theorem dX16_ripeBlock_295 : decode cX16_ripeBlock 295 = .ok (.getfield 61, 3) := dk_get daX16_ripeBlock 203 (r := (295, .getfield 61, 3)) rfl
theorem dX16_ripeBlock_298 : decode cX16_ripeBlock 298 = .ok (.iconst 1, 1) := dk_get daX16_ripeBlock 204 (r := (298, .iconst 1, 1)) rfl
theorem dX16_ripeBlock_299 : decode cX16_ripeBlock 299 = .ok (.iaload, 1) := dk_get daX16_ripeBlock 205 (r := (299, .iaload, 1)) rfl
theorem dX16_ripeBlock_300 : decode cX16_ripeBlock 300 = .ok (.iadd, 1) := dk_get daX16_ripeBlock 206 (r := (300, .iadd, 1)) rfl
theorem dX16_ripeBlock_301 : decode cX16_ripeBlock 301 = .ok (.aload_n 0, 1) := dk_get daX16_ripeBlock 207 (r := (301, .aload_n 0, 1)) rfl
theorem dX16_ripeBlock_302 : decode cX16_ripeBlock 302 = .ok (.getfield 64, 3) := dk_get daX16_ripeBlock 208 (r := (302, .getfield 64, 3)) rfl
theorem dX16_ripeBlock_305 : decode cX16_ripeBlock 305 = .ok (.iconst 2, 1) := dk_get daX16_ripeBlock 209 (r := (305, .iconst 2, 1)) rfl
theorem dX16_ripeBlock_306 : decode cX16_ripeBlock 306 = .ok (.iaload, 1) := dk_get daX16_ripeBlock 210 (r := (306, .iaload, 1)) rfl
theorem dX16_ripeBlock_307 : decode cX16_ripeBlock 307 = .ok (.iadd, 1) := dk_get daX16_ripeBlock 211 (r := (307, .iadd, 1)) rfl
theorem dX16_ripeBlock_308 : decode cX16_ripeBlock 308 = .ok (.iastore, 1) := dk_get daX16_ripeBlock 212 (r := (308, .iastore, 1)) rfl
theorem dX16_ripeBlock_309 : decode cX16_ripeBlock 309 = .ok (.aload_n 0, 1) := dk_get daX16_ripeBlock 213 (r := (309, .aload_n 0, 1)) rfl
theorem dX16_ripeBlock_310 : decode cX16_ripeBlock 310 = .ok (.getfield 19, 3) := dk_get daX16_ripeBlock 214 (r := (310, .getfield 19, 3)) rfl
theorem dX16_ripeBlock_313 : decode cX16_ripeBlock 313 = .ok (.iconst 0, 1) := dk_get daX16_ripeBlock 215 (r := (313, .iconst 0, 1)) rfl
theorem dX16_ripeBlock_314 : decode cX16_ripeBlock 314 = .ok (.iload_n 3, 1) := dk_get daX16_ripeBlock 216 (r := (314, .iload_n 3, 1)) rfl
theorem dX16_ripeBlock_315 : decode cX16_ripeBlock 315 = .ok (.iastore, 1) := dk_get daX16_ripeBlock 217 (r := (315, .iastore, 1)) rfl
theorem dX16_ripeBlock_316 : decode cX16_ripeBlock 316 = .ok (.return_, 1) := dk_get daX16_ripeBlock 218 (r := (316, .return_, 1)) rfl
abbrev mX16_side : ks_M := (RX16, cX16_side, 10, none, "side")
def drX16_side : List (Nat × Instr × Nat) := [(0, .aload_n 1, 1), (1, .iconst 1, 1), (2, .iaload, 1), (3, .istore 5, 2), (5, .aload_n 1, 1), (6, .iconst 2, 1), (7, .iaload, 1), (8, .istore 6, 2), (10, .aload_n 1, 1), (11, .iconst 3, 1), (12, .iaload, 1), (13, .istore 7, 2), (15, .iload_n 2, 1), (16, .ifCond .ne 14, 3), (19, .iload 5, 2), (21, .iload 6, 2), (23, .ixor, 1), (24, .iload 7, 2), (26, .ixor, 1), (27, .goto 73, 3), (30, .iload_n 2, 1), (31, .iconst 1, 1), (32, .if_icmp .ne 19, 3), (35, .iload 5, 2), (37, .iload 6, 2), (39, .iand, 1), (40, .iload 5, 2), (42, .iconst (-1), 1), (43, .ixor, 1), (44, .iload 7, 2), (46, .iand, 1), (47, .ior, 1), (48, .goto 52, 3), (51, .iload_n 2, 1), (52, .iconst 2, 1), (53, .if_icmp .ne 16, 3), (56, .iload 5, 2), (58, .iload 6, 2), (60, .iconst (-1), 1), (61, .ixor, 1), (62, .ior, 1), (63, .iload 7, 2), (65, .ixor, 1), (66, .goto 34, 3), (69, .iload_n 2, 1), (70, .iconst 3, 1), (71, .if_icmp .ne 19, 3), (74, .iload 5, 2), (76, .iload 7, 2), (78, .iand, 1), (79, .iload 6, 2), (81, .iload 7, 2), (83, .iconst (-1), 1), (84, .ixor, 1), (85, .iand, 1), (86, .ior, 1), (87, .goto 13, 3), (90, .iload 5, 2), (92, .iload 6, 2), (94, .iload 7, 2), (96, .iconst (-1), 1), (97, .ixor, 1), (98, .ior, 1), (99, .ixor, 1), (100, .istore 8, 2), (102, .aload_n 1, 1), (103, .iconst 0, 1), (104, .iaload, 1), (105, .iload 8, 2), (107, .iadd, 1), (108, .aload_n 0, 1), (109, .getfield 38, 3), (112, .aload_n 0, 1), (113, .getfield 74, 3), (116, .iload_n 3, 1), (117, .iaload, 1), (118, .iaload, 1), (119, .iadd, 1), (120, .iload 4, 2), (122, .iadd, 1), (123, .aload_n 0, 1), (124, .getfield 77, 3), (127, .iload_n 3, 1), (128, .iaload, 1), (129, .invokestatic 41, 3), (132, .aload_n 1, 1), (133, .iconst 4, 1), (134, .iaload, 1), (135, .iadd, 1), (136, .istore 9, 2), (138, .aload_n 1, 1), (139, .iconst 0, 1), (140, .aload_n 1, 1), (141, .iconst 4, 1), (142, .iaload, 1), (143, .iastore, 1), (144, .aload_n 1, 1), (145, .iconst 4, 1), (146, .iload 7, 2), (148, .iastore, 1), (149, .aload_n 1, 1), (150, .iconst 3, 1), (151, .iload 6, 2), (153, .bipush 10, 2), (155, .invokestatic 41, 3), (158, .iastore, 1), (159, .aload_n 1, 1), (160, .iconst 2, 1), (161, .iload 5, 2), (163, .iastore, 1), (164, .aload_n 1, 1), (165, .iconst 1, 1), (166, .iload 9, 2), (168, .iastore, 1), (169, .return_, 1)]
set_option maxRecDepth 100000 in
theorem daX16_side : dk_all cX16_side drX16_side = true := by decide +kernel
theorem dX16_side_0 : decode cX16_side 0 = .ok (.aload_n 1, 1) := dk_get daX16_side 0 (r := (0, .aload_n 1, 1)) rfl
theorem dX16_side_1 : decode cX16_side 1 = .ok (.iconst 1, 1) := dk_get daX16_side 1 (r := (1, .iconst 1, 1)) rfl
theorem dX16_side_2 : decode cX16_side 2 = .ok (.iaload, 1) := dk_get daX16_side 2 (r := (2, .iaload, 1)) rfl
theorem dX16_side_3 : decode cX16_side 3 = .ok (.istore 5, 2) := dk_get daX16_side 3 (r := (3, .istore 5, 2)) rfl
theorem dX16_side_5 : decode cX16_side 5 = .ok (.aload_n 1, 1) := dk_get daX16_side 4 (r := (5, .aload_n 1, 1)) rfl
theorem dX16_side_6 : decode cX16_side 6 = .ok (.iconst 2, 1) := dk_get daX16_side 5 (r := (6, .iconst 2, 1)) rfl
theorem dX16_side_7 : decode cX16_side 7 = .ok (.iaload, 1) := dk_get daX16_side 6 (r := (7, .iaload, 1)) rfl
theorem dX16_side_8 : decode cX16_side 8 = .ok (.istore 6, 2) := dk_get daX16_side 7 (r := (8, .istore 6, 2)) rfl
theorem dX16_side_10 : decode cX16_side 10 = .ok (.aload_n 1, 1) := dk_get daX16_side 8 (r := (10, .aload_n 1, 1)) rfl
theorem dX16_side_11 : decode cX16_side 11 = .ok (.iconst 3, 1) := dk_get daX16_side 9 (r := (11, .iconst 3, 1)) rfl
theorem dX16_side_12 : decode cX16_side 12 = .ok (.iaload, 1) := dk_get daX16_side 10 (r := (12, .iaload, 1)) rfl
theorem dX16_side_13 : decode cX16_side 13 = .ok (.istore 7, 2) := dk_get daX16_side 11 (r := (13, .istore 7, 2)) rfl
theorem dX16_side_15 : decode cX16_side 15 = .ok (.iload_n 2, 1) := dk_get daX16_side 12 (r := (15, .iload_n 2, 1)) rfl
theorem dX16_side_16 : decode cX16_side 16 = .ok (.ifCond .ne 14, 3) := dk_get daX16_side 13 (r := (16, .ifCond .ne 14, 3)) rfl
theorem dX16_side_19 : decode cX16_side 19 = .ok (.iload 5, 2) := dk_get daX16_side 14 (r := (19, .iload 5, 2)) rfl
theorem dX16_side_21 : decode cX16_side 21 = .ok (.iload 6, 2) := dk_get daX16_side 15 (r := (21, .iload 6, 2)) rfl
theorem dX16_side_23 : decode cX16_side 23 = .ok (.ixor, 1) := dk_get daX16_side 16 (r := (23, .ixor, 1)) rfl
theorem dX16_side_24 : decode cX16_side 24 = .ok (.iload 7, 2) := dk_get daX16_side 17 (r := (24, .iload 7, 2)) rfl
theorem dX16_side_26 : decode cX16_side 26 = .ok (.ixor, 1) := dk_get daX16_side 18 (r := (26, .ixor, 1)) rfl
theorem dX16_side_27 : decode cX16_side 27 = .ok (.goto 73, 3) := dk_get daX16_side 19 (r := (27, .goto 73, 3)) rfl
theorem dX16_side_30 : decode cX16_side 30 = .ok (.iload_n 2, 1) := dk_get daX16_side 20 (r := (30, .iload_n 2, 1)) rfl
theorem dX16_side_31 : decode cX16_side 31 = .ok (.iconst 1, 1) := dk_get daX16_side 21 (r := (31, .iconst 1, 1)) rfl
theorem dX16_side_32 : decode cX16_side 32 = .ok (.if_icmp .ne 19, 3) := dk_get daX16_side 22 (r := (32, .if_icmp .ne 19, 3)) rfl
theorem dX16_side_35 : decode cX16_side 35 = .ok (.iload 5, 2) := dk_get daX16_side 23 (r := (35, .iload 5, 2)) rfl
theorem dX16_side_37 : decode cX16_side 37 = .ok (.iload 6, 2) := dk_get daX16_side 24 (r := (37, .iload 6, 2)) rfl
theorem dX16_side_39 : decode cX16_side 39 = .ok (.iand, 1) := dk_get daX16_side 25 (r := (39, .iand, 1)) rfl
theorem dX16_side_40 : decode cX16_side 40 = .ok (.iload 5, 2) := dk_get daX16_side 26 (r := (40, .iload 5, 2)) rfl
theorem dX16_side_42 : decode cX16_side 42 = .ok (.iconst (-1), 1) := dk_get daX16_side 27 (r := (42, .iconst (-1), 1)) rfl
theorem dX16_side_43 : decode cX16_side 43 = .ok (.ixor, 1) := dk_get daX16_side 28 (r := (43, .ixor, 1)) rfl
theorem dX16_side_44 : decode cX16_side 44 = .ok (.iload 7, 2) := dk_get daX16_side 29 (r := (44, .iload 7, 2)) rfl
theorem dX16_side_46 : decode cX16_side 46 = .ok (.iand, 1) := dk_get daX16_side 30 (r := (46, .iand, 1)) rfl
theorem dX16_side_47 : decode cX16_side 47 = .ok (.ior, 1) := dk_get daX16_side 31 (r := (47, .ior, 1)) rfl
theorem dX16_side_48 : decode cX16_side 48 = .ok (.goto 52, 3) := dk_get daX16_side 32 (r := (48, .goto 52, 3)) rfl
theorem dX16_side_51 : decode cX16_side 51 = .ok (.iload_n 2, 1) := dk_get daX16_side 33 (r := (51, .iload_n 2, 1)) rfl
theorem dX16_side_52 : decode cX16_side 52 = .ok (.iconst 2, 1) := dk_get daX16_side 34 (r := (52, .iconst 2, 1)) rfl
theorem dX16_side_53 : decode cX16_side 53 = .ok (.if_icmp .ne 16, 3) := dk_get daX16_side 35 (r := (53, .if_icmp .ne 16, 3)) rfl
theorem dX16_side_56 : decode cX16_side 56 = .ok (.iload 5, 2) := dk_get daX16_side 36 (r := (56, .iload 5, 2)) rfl
theorem dX16_side_58 : decode cX16_side 58 = .ok (.iload 6, 2) := dk_get daX16_side 37 (r := (58, .iload 6, 2)) rfl
theorem dX16_side_60 : decode cX16_side 60 = .ok (.iconst (-1), 1) := dk_get daX16_side 38 (r := (60, .iconst (-1), 1)) rfl
theorem dX16_side_61 : decode cX16_side 61 = .ok (.ixor, 1) := dk_get daX16_side 39 (r := (61, .ixor, 1)) rfl
theorem dX16_side_62 : decode cX16_side 62 = .ok (.ior, 1) := dk_get daX16_side 40 (r := (62, .ior, 1)) rfl
theorem dX16_side_63 : decode cX16_side 63 = .ok (.iload 7, 2) := dk_get daX16_side 41 (r := (63, .iload 7, 2)) rfl
theorem dX16_side_65 : decode cX16_side 65 = .ok (.ixor, 1) := dk_get daX16_side 42 (r := (65, .ixor, 1)) rfl
theorem dX16_side_66 : decode cX16_side 66 = .ok (.goto 34, 3) := dk_get daX16_side 43 (r := (66, .goto 34, 3)) rfl
theorem dX16_side_69 : decode cX16_side 69 = .ok (.iload_n 2, 1) := dk_get daX16_side 44 (r := (69, .iload_n 2, 1)) rfl
theorem dX16_side_70 : decode cX16_side 70 = .ok (.iconst 3, 1) := dk_get daX16_side 45 (r := (70, .iconst 3, 1)) rfl
theorem dX16_side_71 : decode cX16_side 71 = .ok (.if_icmp .ne 19, 3) := dk_get daX16_side 46 (r := (71, .if_icmp .ne 19, 3)) rfl
theorem dX16_side_74 : decode cX16_side 74 = .ok (.iload 5, 2) := dk_get daX16_side 47 (r := (74, .iload 5, 2)) rfl
theorem dX16_side_76 : decode cX16_side 76 = .ok (.iload 7, 2) := dk_get daX16_side 48 (r := (76, .iload 7, 2)) rfl
theorem dX16_side_78 : decode cX16_side 78 = .ok (.iand, 1) := dk_get daX16_side 49 (r := (78, .iand, 1)) rfl
theorem dX16_side_79 : decode cX16_side 79 = .ok (.iload 6, 2) := dk_get daX16_side 50 (r := (79, .iload 6, 2)) rfl
theorem dX16_side_81 : decode cX16_side 81 = .ok (.iload 7, 2) := dk_get daX16_side 51 (r := (81, .iload 7, 2)) rfl
theorem dX16_side_83 : decode cX16_side 83 = .ok (.iconst (-1), 1) := dk_get daX16_side 52 (r := (83, .iconst (-1), 1)) rfl
theorem dX16_side_84 : decode cX16_side 84 = .ok (.ixor, 1) := dk_get daX16_side 53 (r := (84, .ixor, 1)) rfl
theorem dX16_side_85 : decode cX16_side 85 = .ok (.iand, 1) := dk_get daX16_side 54 (r := (85, .iand, 1)) rfl
theorem dX16_side_86 : decode cX16_side 86 = .ok (.ior, 1) := dk_get daX16_side 55 (r := (86, .ior, 1)) rfl
theorem dX16_side_87 : decode cX16_side 87 = .ok (.goto 13, 3) := dk_get daX16_side 56 (r := (87, .goto 13, 3)) rfl
theorem dX16_side_90 : decode cX16_side 90 = .ok (.iload 5, 2) := dk_get daX16_side 57 (r := (90, .iload 5, 2)) rfl
theorem dX16_side_92 : decode cX16_side 92 = .ok (.iload 6, 2) := dk_get daX16_side 58 (r := (92, .iload 6, 2)) rfl
theorem dX16_side_94 : decode cX16_side 94 = .ok (.iload 7, 2) := dk_get daX16_side 59 (r := (94, .iload 7, 2)) rfl
theorem dX16_side_96 : decode cX16_side 96 = .ok (.iconst (-1), 1) := dk_get daX16_side 60 (r := (96, .iconst (-1), 1)) rfl
theorem dX16_side_97 : decode cX16_side 97 = .ok (.ixor, 1) := dk_get daX16_side 61 (r := (97, .ixor, 1)) rfl
theorem dX16_side_98 : decode cX16_side 98 = .ok (.ior, 1) := dk_get daX16_side 62 (r := (98, .ior, 1)) rfl
theorem dX16_side_99 : decode cX16_side 99 = .ok (.ixor, 1) := dk_get daX16_side 63 (r := (99, .ixor, 1)) rfl
theorem dX16_side_100 : decode cX16_side 100 = .ok (.istore 8, 2) := dk_get daX16_side 64 (r := (100, .istore 8, 2)) rfl
theorem dX16_side_102 : decode cX16_side 102 = .ok (.aload_n 1, 1) := dk_get daX16_side 65 (r := (102, .aload_n 1, 1)) rfl
theorem dX16_side_103 : decode cX16_side 103 = .ok (.iconst 0, 1) := dk_get daX16_side 66 (r := (103, .iconst 0, 1)) rfl
theorem dX16_side_104 : decode cX16_side 104 = .ok (.iaload, 1) := dk_get daX16_side 67 (r := (104, .iaload, 1)) rfl
theorem dX16_side_105 : decode cX16_side 105 = .ok (.iload 8, 2) := dk_get daX16_side 68 (r := (105, .iload 8, 2)) rfl
theorem dX16_side_107 : decode cX16_side 107 = .ok (.iadd, 1) := dk_get daX16_side 69 (r := (107, .iadd, 1)) rfl
theorem dX16_side_108 : decode cX16_side 108 = .ok (.aload_n 0, 1) := dk_get daX16_side 70 (r := (108, .aload_n 0, 1)) rfl
theorem dX16_side_109 : decode cX16_side 109 = .ok (.getfield 38, 3) := dk_get daX16_side 71 (r := (109, .getfield 38, 3)) rfl
theorem dX16_side_112 : decode cX16_side 112 = .ok (.aload_n 0, 1) := dk_get daX16_side 72 (r := (112, .aload_n 0, 1)) rfl
theorem dX16_side_113 : decode cX16_side 113 = .ok (.getfield 74, 3) := dk_get daX16_side 73 (r := (113, .getfield 74, 3)) rfl
theorem dX16_side_116 : decode cX16_side 116 = .ok (.iload_n 3, 1) := dk_get daX16_side 74 (r := (116, .iload_n 3, 1)) rfl
theorem dX16_side_117 : decode cX16_side 117 = .ok (.iaload, 1) := dk_get daX16_side 75 (r := (117, .iaload, 1)) rfl
theorem dX16_side_118 : decode cX16_side 118 = .ok (.iaload, 1) := dk_get daX16_side 76 (r := (118, .iaload, 1)) rfl
theorem dX16_side_119 : decode cX16_side 119 = .ok (.iadd, 1) := dk_get daX16_side 77 (r := (119, .iadd, 1)) rfl
theorem dX16_side_120 : decode cX16_side 120 = .ok (.iload 4, 2) := dk_get daX16_side 78 (r := (120, .iload 4, 2)) rfl
theorem dX16_side_122 : decode cX16_side 122 = .ok (.iadd, 1) := dk_get daX16_side 79 (r := (122, .iadd, 1)) rfl
theorem dX16_side_123 : decode cX16_side 123 = .ok (.aload_n 0, 1) := dk_get daX16_side 80 (r := (123, .aload_n 0, 1)) rfl
theorem dX16_side_124 : decode cX16_side 124 = .ok (.getfield 77, 3) := dk_get daX16_side 81 (r := (124, .getfield 77, 3)) rfl
theorem dX16_side_127 : decode cX16_side 127 = .ok (.iload_n 3, 1) := dk_get daX16_side 82 (r := (127, .iload_n 3, 1)) rfl
theorem dX16_side_128 : decode cX16_side 128 = .ok (.iaload, 1) := dk_get daX16_side 83 (r := (128, .iaload, 1)) rfl
theorem dX16_side_129 : decode cX16_side 129 = .ok (.invokestatic 41, 3) := dk_get daX16_side 84 (r := (129, .invokestatic 41, 3)) rfl
theorem dX16_side_132 : decode cX16_side 132 = .ok (.aload_n 1, 1) := dk_get daX16_side 85 (r := (132, .aload_n 1, 1)) rfl
theorem dX16_side_133 : decode cX16_side 133 = .ok (.iconst 4, 1) := dk_get daX16_side 86 (r := (133, .iconst 4, 1)) rfl
theorem dX16_side_134 : decode cX16_side 134 = .ok (.iaload, 1) := dk_get daX16_side 87 (r := (134, .iaload, 1)) rfl
theorem dX16_side_135 : decode cX16_side 135 = .ok (.iadd, 1) := dk_get daX16_side 88 (r := (135, .iadd, 1)) rfl
theorem dX16_side_136 : decode cX16_side 136 = .ok (.istore 9, 2) := dk_get daX16_side 89 (r := (136, .istore 9, 2)) rfl
theorem dX16_side_138 : decode cX16_side 138 = .ok (.aload_n 1, 1) := dk_get daX16_side 90 (r := (138, .aload_n 1, 1)) rfl
theorem dX16_side_139 : decode cX16_side 139 = .ok (.iconst 0, 1) := dk_get daX16_side 91 (r := (139, .iconst 0, 1)) rfl
theorem dX16_side_140 : decode cX16_side 140 = .ok (.aload_n 1, 1) := dk_get daX16_side 92 (r := (140, .aload_n 1, 1)) rfl
theorem dX16_side_141 : decode cX16_side 141 = .ok (.iconst 4, 1) := dk_get daX16_side 93 (r := (141, .iconst 4, 1)) rfl
theorem dX16_side_142 : decode cX16_side 142 = .ok (.iaload, 1) := dk_get daX16_side 94 (r := (142, .iaload, 1)) rfl
theorem dX16_side_143 : decode cX16_side 143 = .ok (.iastore, 1) := dk_get daX16_side 95 (r := (143, .iastore, 1)) rfl
theorem dX16_side_144 : decode cX16_side 144 = .ok (.aload_n 1, 1) := dk_get daX16_side 96 (r := (144, .aload_n 1, 1)) rfl
theorem dX16_side_145 : decode cX16_side 145 = .ok (.iconst 4, 1) := dk_get daX16_side 97 (r := (145, .iconst 4, 1)) rfl
theorem dX16_side_146 : decode cX16_side 146 = .ok (.iload 7, 2) := dk_get daX16_side 98 (r := (146, .iload 7, 2)) rfl
theorem dX16_side_148 : decode cX16_side 148 = .ok (.iastore, 1) := dk_get daX16_side 99 (r := (148, .iastore, 1)) rfl
theorem dX16_side_149 : decode cX16_side 149 = .ok (.aload_n 1, 1) := dk_get daX16_side 100 (r := (149, .aload_n 1, 1)) rfl
theorem dX16_side_150 : decode cX16_side 150 = .ok (.iconst 3, 1) := dk_get daX16_side 101 (r := (150, .iconst 3, 1)) rfl
theorem dX16_side_151 : decode cX16_side 151 = .ok (.iload 6, 2) := dk_get daX16_side 102 (r := (151, .iload 6, 2)) rfl
theorem dX16_side_153 : decode cX16_side 153 = .ok (.bipush 10, 2) := dk_get daX16_side 103 (r := (153, .bipush 10, 2)) rfl
theorem dX16_side_155 : decode cX16_side 155 = .ok (.invokestatic 41, 3) := dk_get daX16_side 104 (r := (155, .invokestatic 41, 3)) rfl
theorem dX16_side_158 : decode cX16_side 158 = .ok (.iastore, 1) := dk_get daX16_side 105 (r := (158, .iastore, 1)) rfl
theorem dX16_side_159 : decode cX16_side 159 = .ok (.aload_n 1, 1) := dk_get daX16_side 106 (r := (159, .aload_n 1, 1)) rfl
theorem dX16_side_160 : decode cX16_side 160 = .ok (.iconst 2, 1) := dk_get daX16_side 107 (r := (160, .iconst 2, 1)) rfl
theorem dX16_side_161 : decode cX16_side 161 = .ok (.iload 5, 2) := dk_get daX16_side 108 (r := (161, .iload 5, 2)) rfl
theorem dX16_side_163 : decode cX16_side 163 = .ok (.iastore, 1) := dk_get daX16_side 109 (r := (163, .iastore, 1)) rfl
theorem dX16_side_164 : decode cX16_side 164 = .ok (.aload_n 1, 1) := dk_get daX16_side 110 (r := (164, .aload_n 1, 1)) rfl
theorem dX16_side_165 : decode cX16_side 165 = .ok (.iconst 1, 1) := dk_get daX16_side 111 (r := (165, .iconst 1, 1)) rfl
theorem dX16_side_166 : decode cX16_side 166 = .ok (.iload 9, 2) := dk_get daX16_side 112 (r := (166, .iload 9, 2)) rfl
theorem dX16_side_168 : decode cX16_side 168 = .ok (.iastore, 1) := dk_get daX16_side 113 (r := (168, .iastore, 1)) rfl
theorem dX16_side_169 : decode cX16_side 169 = .ok (.return_, 1) := dk_get daX16_side 114 (r := (169, .return_, 1)) rfl
abbrev mX16_again : ks_M := (RX16, cX16_again, 6, none, "again")
def drX16_again : List (Nat × Instr × Nat) := [(0, .aload_n 0, 1), (1, .aload_n 1, 1), (2, .iload_n 2, 1), (3, .iload_n 3, 1), (4, .aload_n 0, 1), (5, .getfield 80, 3), (8, .iconst 0, 1), (9, .invokevirtual 83, 3), (12, .aload_n 0, 1), (13, .aload_n 0, 1), (14, .getfield 80, 3), (17, .iconst 0, 1), (18, .bipush 32, 2), (20, .aload 4, 2), (22, .iload 5, 2), (24, .invokevirtual 83, 3), (27, .return_, 1)]
set_option maxRecDepth 100000 in
theorem daX16_again : dk_all cX16_again drX16_again = true := by decide +kernel
theorem dX16_again_0 : decode cX16_again 0 = .ok (.aload_n 0, 1) := dk_get daX16_again 0 (r := (0, .aload_n 0, 1)) rfl
theorem dX16_again_1 : decode cX16_again 1 = .ok (.aload_n 1, 1) := dk_get daX16_again 1 (r := (1, .aload_n 1, 1)) rfl
theorem dX16_again_2 : decode cX16_again 2 = .ok (.iload_n 2, 1) := dk_get daX16_again 2 (r := (2, .iload_n 2, 1)) rfl
theorem dX16_again_3 : decode cX16_again 3 = .ok (.iload_n 3, 1) := dk_get daX16_again 3 (r := (3, .iload_n 3, 1)) rfl
theorem dX16_again_4 : decode cX16_again 4 = .ok (.aload_n 0, 1) := dk_get daX16_again 4 (r := (4, .aload_n 0, 1)) rfl
theorem dX16_again_5 : decode cX16_again 5 = .ok (.getfield 80, 3) := dk_get daX16_again 5 (r := (5, .getfield 80, 3)) rfl
theorem dX16_again_8 : decode cX16_again 8 = .ok (.iconst 0, 1) := dk_get daX16_again 6 (r := (8, .iconst 0, 1)) rfl
theorem dX16_again_9 : decode cX16_again 9 = .ok (.invokevirtual 83, 3) := dk_get daX16_again 7 (r := (9, .invokevirtual 83, 3)) rfl
theorem dX16_again_12 : decode cX16_again 12 = .ok (.aload_n 0, 1) := dk_get daX16_again 8 (r := (12, .aload_n 0, 1)) rfl
theorem dX16_again_13 : decode cX16_again 13 = .ok (.aload_n 0, 1) := dk_get daX16_again 9 (r := (13, .aload_n 0, 1)) rfl
theorem dX16_again_14 : decode cX16_again 14 = .ok (.getfield 80, 3) := dk_get daX16_again 10 (r := (14, .getfield 80, 3)) rfl
theorem dX16_again_17 : decode cX16_again 17 = .ok (.iconst 0, 1) := dk_get daX16_again 11 (r := (17, .iconst 0, 1)) rfl
theorem dX16_again_18 : decode cX16_again 18 = .ok (.bipush 32, 2) := dk_get daX16_again 12 (r := (18, .bipush 32, 2)) rfl
theorem dX16_again_20 : decode cX16_again 20 = .ok (.aload 4, 2) := dk_get daX16_again 13 (r := (20, .aload 4, 2)) rfl
theorem dX16_again_22 : decode cX16_again 22 = .ok (.iload 5, 2) := dk_get daX16_again 14 (r := (22, .iload 5, 2)) rfl
theorem dX16_again_24 : decode cX16_again 24 = .ok (.invokevirtual 83, 3) := dk_get daX16_again 15 (r := (24, .invokevirtual 83, 3)) rfl
theorem dX16_again_27 : decode cX16_again 27 = .ok (.return_, 1) := dk_get daX16_again 16 (r := (27, .return_, 1)) rfl
abbrev mX16_hash160 : ks_M := (RX16, cX16_hash160, 6, none, "hash160")
def drX16_hash160 : List (Nat × Instr × Nat) := [(0, .aload_n 0, 1), (1, .aload_n 1, 1), (2, .iload_n 2, 1), (3, .iload_n 3, 1), (4, .aload_n 0, 1), (5, .getfield 80, 3), (8, .iconst 0, 1), (9, .invokevirtual 83, 3), (12, .aload_n 0, 1), (13, .aload_n 0, 1), (14, .getfield 80, 3), (17, .iconst 0, 1), (18, .bipush 32, 2), (20, .aload 4, 2), (22, .iload 5, 2), (24, .invokevirtual 87, 3), (27, .return_, 1)]
set_option maxRecDepth 100000 in
theorem daX16_hash160 : dk_all cX16_hash160 drX16_hash160 = true := by decide +kernel
theorem dX16_hash160_0 : decode cX16_hash160 0 = .ok (.aload_n 0, 1) := dk_get daX16_hash160 0 (r := (0, .aload_n 0, 1)) rfl
theorem dX16_hash160_1 : decode cX16_hash160 1 = .ok (.aload_n 1, 1) := dk_get daX16_hash160 1 (r := (1, .aload_n 1, 1)) rfl
theorem dX16_hash160_2 : decode cX16_hash160 2 = .ok (.iload_n 2, 1) := dk_get daX16_hash160 2 (r := (2, .iload_n 2, 1)) rfl
theorem dX16_hash160_3 : decode cX16_hash160 3 = .ok (.iload_n 3, 1) := dk_get daX16_hash160 3 (r := (3, .iload_n 3, 1)) rfl
theorem dX16_hash160_4 : decode cX16_hash160 4 = .ok (.aload_n 0, 1) := dk_get daX16_hash160 4 (r := (4, .aload_n 0, 1)) rfl
theorem dX16_hash160_5 : decode cX16_hash160 5 = .ok (.getfield 80, 3) := dk_get daX16_hash160 5 (r := (5, .getfield 80, 3)) rfl
theorem dX16_hash160_8 : decode cX16_hash160 8 = .ok (.iconst 0, 1) := dk_get daX16_hash160 6 (r := (8, .iconst 0, 1)) rfl
theorem dX16_hash160_9 : decode cX16_hash160 9 = .ok (.invokevirtual 83, 3) := dk_get daX16_hash160 7 (r := (9, .invokevirtual 83, 3)) rfl
theorem dX16_hash160_12 : decode cX16_hash160 12 = .ok (.aload_n 0, 1) := dk_get daX16_hash160 8 (r := (12, .aload_n 0, 1)) rfl
theorem dX16_hash160_13 : decode cX16_hash160 13 = .ok (.aload_n 0, 1) := dk_get daX16_hash160 9 (r := (13, .aload_n 0, 1)) rfl
theorem dX16_hash160_14 : decode cX16_hash160 14 = .ok (.getfield 80, 3) := dk_get daX16_hash160 10 (r := (14, .getfield 80, 3)) rfl
theorem dX16_hash160_17 : decode cX16_hash160 17 = .ok (.iconst 0, 1) := dk_get daX16_hash160 11 (r := (17, .iconst 0, 1)) rfl
theorem dX16_hash160_18 : decode cX16_hash160 18 = .ok (.bipush 32, 2) := dk_get daX16_hash160 12 (r := (18, .bipush 32, 2)) rfl
theorem dX16_hash160_20 : decode cX16_hash160 20 = .ok (.aload 4, 2) := dk_get daX16_hash160 13 (r := (20, .aload 4, 2)) rfl
theorem dX16_hash160_22 : decode cX16_hash160 22 = .ok (.iload 5, 2) := dk_get daX16_hash160 14 (r := (22, .iload 5, 2)) rfl
theorem dX16_hash160_24 : decode cX16_hash160 24 = .ok (.invokevirtual 87, 3) := dk_get daX16_hash160 15 (r := (24, .invokevirtual 87, 3)) rfl
theorem dX16_hash160_27 : decode cX16_hash160 27 = .ok (.return_, 1) := dk_get daX16_hash160 16 (r := (27, .return_, 1)) rfl
set_option maxRecDepth 100000 in
theorem kx_30 : (Jvm.Cond.initialized "CoinJudgeModel") ∈ lw_tbl := List.mem_append_right _ (List.mem_of_getElem? (i := 30) (by rfl))
set_option maxRecDepth 100000 in
theorem kx_1991 : (Jvm.Cond.code ({ cls := "CoinJudgeModel", name := "again", desc := "([BII[BI)V" } : Jvm.MethodName) prog_14_method_13_code (6 : Nat) (Option.none : Option Jvm.ClassFile.FieldType)) ∈ lw_tbl := List.mem_append_right _ (List.mem_of_getElem? (i := 1991) (by rfl))
set_option maxRecDepth 100000 in
theorem kx_1992 : (Jvm.Cond.methodLink "CoinJudgeModel" (83 : Nat) ({ cls := "CoinJudgeModel", name := "sha", desc := "([BII[BI)V" } : Jvm.MethodName)) ∈ lw_tbl := List.mem_append_right _ (List.mem_of_getElem? (i := 1992) (by rfl))
set_option maxRecDepth 100000 in
theorem kx_1994 : (Jvm.Cond.instanceMethod ({ cls := "CoinJudgeModel", name := "sha", desc := "([BII[BI)V" } : Jvm.MethodName)) ∈ lw_tbl := List.mem_append_right _ (List.mem_of_getElem? (i := 1994) (by rfl))
set_option maxRecDepth 100000 in
theorem kx_1995 : (Jvm.Cond.code ({ cls := "CoinJudgeModel", name := "sha", desc := "([BII[BI)V" } : Jvm.MethodName) prog_14_method_6_code (9 : Nat) (Option.none : Option Jvm.ClassFile.FieldType)) ∈ lw_tbl := List.mem_append_right _ (List.mem_of_getElem? (i := 1995) (by rfl))
set_option maxRecDepth 100000 in
theorem kx_1996 : (Jvm.Cond.methodLink "CoinJudgeModel" (26 : Nat) ({ cls := "CoinJudgeModel", name := "shaBlock", desc := "([BI)V" } : Jvm.MethodName)) ∈ lw_tbl := List.mem_append_right _ (List.mem_of_getElem? (i := 1996) (by rfl))
set_option maxRecDepth 100000 in
theorem kx_1998 : (Jvm.Cond.instanceMethod ({ cls := "CoinJudgeModel", name := "shaBlock", desc := "([BI)V" } : Jvm.MethodName)) ∈ lw_tbl := List.mem_append_right _ (List.mem_of_getElem? (i := 1998) (by rfl))
set_option maxRecDepth 100000 in
theorem kx_1999 : (Jvm.Cond.code ({ cls := "CoinJudgeModel", name := "shaBlock", desc := "([BI)V" } : Jvm.MethodName) prog_14_method_7_code (7 : Nat) (Option.none : Option Jvm.ClassFile.FieldType)) ∈ lw_tbl := List.mem_append_right _ (List.mem_of_getElem? (i := 1999) (by rfl))
set_option maxRecDepth 100000 in
theorem kx_2000 : (Jvm.Cond.methodLink "CoinJudgeModel" (41 : Nat) ({ cls := "CoinJudgeModel", name := "turn", desc := "(II)I" } : Jvm.MethodName)) ∈ lw_tbl := List.mem_append_right _ (List.mem_of_getElem? (i := 2000) (by rfl))
set_option maxRecDepth 100000 in
theorem kx_2001 : (Jvm.Cond.static ({ cls := "CoinJudgeModel", name := "turn", desc := "(II)I" } : Jvm.MethodName)) ∈ lw_tbl := List.mem_append_right _ (List.mem_of_getElem? (i := 2001) (by rfl))
set_option maxRecDepth 100000 in
theorem kx_2002 : (Jvm.Cond.code ({ cls := "CoinJudgeModel", name := "turn", desc := "(II)I" } : Jvm.MethodName) prog_14_method_8_code (2 : Nat) (Option.some Jvm.ClassFile.FieldType.int)) ∈ lw_tbl := List.mem_append_right _ (List.mem_of_getElem? (i := 2002) (by rfl))
set_option maxRecDepth 100000 in
theorem kx_2003 : (Jvm.Cond.methodLink "CoinJudgeModel" (30 : Nat) ({ cls := "CoinJudgeModel", name := "pad", desc := "([BIIIZ)I" } : Jvm.MethodName)) ∈ lw_tbl := List.mem_append_right _ (List.mem_of_getElem? (i := 2003) (by rfl))
set_option maxRecDepth 100000 in
theorem kx_2005 : (Jvm.Cond.instanceMethod ({ cls := "CoinJudgeModel", name := "pad", desc := "([BIIIZ)I" } : Jvm.MethodName)) ∈ lw_tbl := List.mem_append_right _ (List.mem_of_getElem? (i := 2005) (by rfl))
set_option maxRecDepth 100000 in
theorem kx_2006 : (Jvm.Cond.code ({ cls := "CoinJudgeModel", name := "pad", desc := "([BIIIZ)I" } : Jvm.MethodName) prog_14_method_9_code (10 : Nat) (Option.some Jvm.ClassFile.FieldType.int)) ∈ lw_tbl := List.mem_append_right _ (List.mem_of_getElem? (i := 2006) (by rfl))
set_option maxRecDepth 100000 in
theorem kx_2007 : (Jvm.Cond.constantLong "CoinJudgeModel" (51 : Nat) (8 : Int64)) ∈ lw_tbl := List.mem_append_right _ (List.mem_of_getElem? (i := 2007) (by rfl))
set_option maxRecDepth 100000 in
theorem kx_2212 : (Jvm.Cond.methodLink "CoinJudgeModel" (87 : Nat) ({ cls := "CoinJudgeModel", name := "ripe", desc := "([BII[BI)V" } : Jvm.MethodName)) ∈ lw_tbl := List.mem_append_right _ (List.mem_of_getElem? (i := 2212) (by rfl))
set_option maxRecDepth 100000 in
theorem kx_2214 : (Jvm.Cond.instanceMethod ({ cls := "CoinJudgeModel", name := "ripe", desc := "([BII[BI)V" } : Jvm.MethodName)) ∈ lw_tbl := List.mem_append_right _ (List.mem_of_getElem? (i := 2214) (by rfl))
set_option maxRecDepth 100000 in
theorem kx_2215 : (Jvm.Cond.code ({ cls := "CoinJudgeModel", name := "ripe", desc := "([BII[BI)V" } : Jvm.MethodName) prog_14_method_10_code (9 : Nat) (Option.none : Option Jvm.ClassFile.FieldType)) ∈ lw_tbl := List.mem_append_right _ (List.mem_of_getElem? (i := 2215) (by rfl))
set_option maxRecDepth 100000 in
theorem kx_2216 : (Jvm.Cond.constant "CoinJudgeModel" (53 : Nat) (1732584193 : Int32)) ∈ lw_tbl := List.mem_append_right _ (List.mem_of_getElem? (i := 2216) (by rfl))
set_option maxRecDepth 100000 in
theorem kx_2217 : (Jvm.Cond.constant "CoinJudgeModel" (54 : Nat) (-271733879 : Int32)) ∈ lw_tbl := List.mem_append_right _ (List.mem_of_getElem? (i := 2217) (by rfl))
set_option maxRecDepth 100000 in
theorem kx_2218 : (Jvm.Cond.constant "CoinJudgeModel" (55 : Nat) (-1732584194 : Int32)) ∈ lw_tbl := List.mem_append_right _ (List.mem_of_getElem? (i := 2218) (by rfl))
set_option maxRecDepth 100000 in
theorem kx_2219 : (Jvm.Cond.constant "CoinJudgeModel" (56 : Nat) (271733878 : Int32)) ∈ lw_tbl := List.mem_append_right _ (List.mem_of_getElem? (i := 2219) (by rfl))
set_option maxRecDepth 100000 in
theorem kx_2220 : (Jvm.Cond.constant "CoinJudgeModel" (57 : Nat) (-1009589776 : Int32)) ∈ lw_tbl := List.mem_append_right _ (List.mem_of_getElem? (i := 2220) (by rfl))
set_option maxRecDepth 100000 in
theorem kx_2221 : (Jvm.Cond.methodLink "CoinJudgeModel" (58 : Nat) ({ cls := "CoinJudgeModel", name := "ripeBlock", desc := "([BI)V" } : Jvm.MethodName)) ∈ lw_tbl := List.mem_append_right _ (List.mem_of_getElem? (i := 2221) (by rfl))
set_option maxRecDepth 100000 in
theorem kx_2223 : (Jvm.Cond.instanceMethod ({ cls := "CoinJudgeModel", name := "ripeBlock", desc := "([BI)V" } : Jvm.MethodName)) ∈ lw_tbl := List.mem_append_right _ (List.mem_of_getElem? (i := 2223) (by rfl))
set_option maxRecDepth 100000 in
theorem kx_2224 : (Jvm.Cond.code ({ cls := "CoinJudgeModel", name := "ripeBlock", desc := "([BI)V" } : Jvm.MethodName) prog_14_method_11_code (4 : Nat) (Option.none : Option Jvm.ClassFile.FieldType)) ∈ lw_tbl := List.mem_append_right _ (List.mem_of_getElem? (i := 2224) (by rfl))
set_option maxRecDepth 100000 in
theorem kx_2225 : (Jvm.Cond.methodLink "CoinJudgeModel" (70 : Nat) ({ cls := "CoinJudgeModel", name := "side", desc := "([IIII)V" } : Jvm.MethodName)) ∈ lw_tbl := List.mem_append_right _ (List.mem_of_getElem? (i := 2225) (by rfl))
set_option maxRecDepth 100000 in
theorem kx_2227 : (Jvm.Cond.instanceMethod ({ cls := "CoinJudgeModel", name := "side", desc := "([IIII)V" } : Jvm.MethodName)) ∈ lw_tbl := List.mem_append_right _ (List.mem_of_getElem? (i := 2227) (by rfl))
set_option maxRecDepth 100000 in
theorem kx_2228 : (Jvm.Cond.code ({ cls := "CoinJudgeModel", name := "side", desc := "([IIII)V" } : Jvm.MethodName) prog_14_method_12_code (10 : Nat) (Option.none : Option Jvm.ClassFile.FieldType)) ∈ lw_tbl := List.mem_append_right _ (List.mem_of_getElem? (i := 2228) (by rfl))
set_option maxRecDepth 100000 in
theorem kx_2232 : (Jvm.Cond.code ({ cls := "CoinJudgeModel", name := "hash160", desc := "([BII[BI)V" } : Jvm.MethodName) prog_14_method_14_code (6 : Nat) (Option.none : Option Jvm.ClassFile.FieldType)) ∈ lw_tbl := List.mem_append_right _ (List.mem_of_getElem? (i := 2232) (by rfl))
set_option maxRecDepth 100000 in
theorem kx_2368 : (Jvm.Cond.fieldLink "CoinJudgeModel" (34 : Nat) "CoinJudgeModel" "padded" "[B") ∈ lw_tbl := List.mem_append_right _ (List.mem_of_getElem? (i := 2368) (by rfl))
set_option maxRecDepth 100000 in
theorem kx_2369 : (Jvm.Cond.fieldLink "CoinJudgeModel" (19 : Nat) "CoinJudgeModel" "state" "[I") ∈ lw_tbl := List.mem_append_right _ (List.mem_of_getElem? (i := 2369) (by rfl))
set_option maxRecDepth 100000 in
theorem kx_2370 : (Jvm.Cond.fieldLink "CoinJudgeModel" (38 : Nat) "CoinJudgeModel" "words" "[I") ∈ lw_tbl := List.mem_append_right _ (List.mem_of_getElem? (i := 2370) (by rfl))
set_option maxRecDepth 100000 in
theorem kx_2371 : (Jvm.Cond.fieldLink "CoinJudgeModel" (23 : Nat) "CoinJudgeModel" "shaStart" "[I") ∈ lw_tbl := List.mem_append_right _ (List.mem_of_getElem? (i := 2371) (by rfl))
set_option maxRecDepth 100000 in
theorem kx_2372 : (Jvm.Cond.fieldLink "CoinJudgeModel" (48 : Nat) "CoinJudgeModel" "shaRound" "[I") ∈ lw_tbl := List.mem_append_right _ (List.mem_of_getElem? (i := 2372) (by rfl))
set_option maxRecDepth 100000 in
theorem kx_2376 : (Jvm.Cond.fieldLink "CoinJudgeModel" (45 : Nat) "CoinJudgeModel" "v" "[I") ∈ lw_tbl := List.mem_append_right _ (List.mem_of_getElem? (i := 2376) (by rfl))
set_option maxRecDepth 100000 in
theorem kx_2377 : (Jvm.Cond.fieldLink "CoinJudgeModel" (74 : Nat) "CoinJudgeModel" "orders" "[I") ∈ lw_tbl := List.mem_append_right _ (List.mem_of_getElem? (i := 2377) (by rfl))
set_option maxRecDepth 100000 in
theorem kx_2378 : (Jvm.Cond.fieldLink "CoinJudgeModel" (77 : Nat) "CoinJudgeModel" "turns" "[I") ∈ lw_tbl := List.mem_append_right _ (List.mem_of_getElem? (i := 2378) (by rfl))
set_option maxRecDepth 100000 in
theorem kx_2379 : (Jvm.Cond.fieldLink "CoinJudgeModel" (67 : Nat) "CoinJudgeModel" "added" "[I") ∈ lw_tbl := List.mem_append_right _ (List.mem_of_getElem? (i := 2379) (by rfl))
set_option maxRecDepth 100000 in
theorem kx_2380 : (Jvm.Cond.fieldLink "CoinJudgeModel" (61 : Nat) "CoinJudgeModel" "left" "[I") ∈ lw_tbl := List.mem_append_right _ (List.mem_of_getElem? (i := 2380) (by rfl))
set_option maxRecDepth 100000 in
theorem kx_2381 : (Jvm.Cond.fieldLink "CoinJudgeModel" (64 : Nat) "CoinJudgeModel" "right" "[I") ∈ lw_tbl := List.mem_append_right _ (List.mem_of_getElem? (i := 2381) (by rfl))
set_option maxRecDepth 100000 in
theorem kx_2382 : (Jvm.Cond.fieldLink "CoinJudgeModel" (80 : Nat) "CoinJudgeModel" "inner" "[B") ∈ lw_tbl := List.mem_append_right _ (List.mem_of_getElem? (i := 2382) (by rfl))
theorem kxp_61 : Cond.selects "CoinJudgeModel" ({ cls := "CoinJudgeModel", name := "again", desc := "([BII[BI)V" } : MethodName) ({ cls := "CoinJudgeModel", name := "again", desc := "([BII[BI)V" } : MethodName) ∈ lw_tbl := List.mem_append_left _ (List.mem_of_getElem? (i := 61) (by decide +kernel))
theorem kxp_62 : Cond.selects "CoinJudgeModel" ({ cls := "CoinJudgeModel", name := "sha", desc := "([BII[BI)V" } : MethodName) ({ cls := "CoinJudgeModel", name := "sha", desc := "([BII[BI)V" } : MethodName) ∈ lw_tbl := List.mem_append_left _ (List.mem_of_getElem? (i := 62) (by decide +kernel))
theorem kxp_63 : Cond.selects "CoinJudgeModel" ({ cls := "CoinJudgeModel", name := "shaBlock", desc := "([BI)V" } : MethodName) ({ cls := "CoinJudgeModel", name := "shaBlock", desc := "([BI)V" } : MethodName) ∈ lw_tbl := List.mem_append_left _ (List.mem_of_getElem? (i := 63) (by decide +kernel))
theorem kxp_64 : Cond.selects "CoinJudgeModel" ({ cls := "CoinJudgeModel", name := "pad", desc := "([BIIIZ)I" } : MethodName) ({ cls := "CoinJudgeModel", name := "pad", desc := "([BIIIZ)I" } : MethodName) ∈ lw_tbl := List.mem_append_left _ (List.mem_of_getElem? (i := 64) (by decide +kernel))
theorem kxp_98 : Cond.selects "CoinJudgeModel" ({ cls := "CoinJudgeModel", name := "ripe", desc := "([BII[BI)V" } : MethodName) ({ cls := "CoinJudgeModel", name := "ripe", desc := "([BII[BI)V" } : MethodName) ∈ lw_tbl := List.mem_append_left _ (List.mem_of_getElem? (i := 98) (by decide +kernel))
theorem kxp_99 : Cond.selects "CoinJudgeModel" ({ cls := "CoinJudgeModel", name := "ripeBlock", desc := "([BI)V" } : MethodName) ({ cls := "CoinJudgeModel", name := "ripeBlock", desc := "([BI)V" } : MethodName) ∈ lw_tbl := List.mem_append_left _ (List.mem_of_getElem? (i := 99) (by decide +kernel))
theorem kxp_100 : Cond.selects "CoinJudgeModel" ({ cls := "CoinJudgeModel", name := "side", desc := "([IIII)V" } : MethodName) ({ cls := "CoinJudgeModel", name := "side", desc := "([IIII)V" } : MethodName) ∈ lw_tbl := List.mem_append_left _ (List.mem_of_getElem? (i := 100) (by decide +kernel))
theorem kxp_101 : Cond.selects "CoinJudgeModel" ({ cls := "CoinJudgeModel", name := "hash160", desc := "([BII[BI)V" } : MethodName) ({ cls := "CoinJudgeModel", name := "hash160", desc := "([BII[BI)V" } : MethodName) ∈ lw_tbl := List.mem_append_left _ (List.mem_of_getElem? (i := 101) (by decide +kernel))

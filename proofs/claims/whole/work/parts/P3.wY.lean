abbrev mX16_init : ks_M := (RX16, cX16_init, 6, none, "<init>")
def drX16_init_c0 : List (Nat × Instr × Nat) := [(0, .aload_n 0, 1), (1, .invokespecial 773, 3), (4, .aload_n 0, 1), (5, .sipush 128, 3), (8, .newarray .byte, 2), (10, .putfield 34, 3), (13, .aload_n 0, 1), (14, .bipush 8, 2), (16, .newarray .int, 2), (18, .putfield 19, 3), (21, .aload_n 0, 1), (22, .bipush 64, 2), (24, .newarray .int, 2), (26, .putfield 38, 3), (29, .aload_n 0, 1), (30, .bipush 8, 2), (32, .newarray .int, 2), (34, .putfield 23, 3), (37, .aload_n 0, 1), (38, .bipush 64, 2), (40, .newarray .int, 2), (42, .putfield 48, 3), (45, .aload_n 0, 1), (46, .iconst 3, 1), (47, .newarray .long, 2), (49, .putfield 1, 3), (52, .aload_n 0, 1), (53, .bipush 6, 2), (55, .newarray .long, 2), (57, .putfield 9, 3), (60, .aload_n 0, 1), (61, .bipush 9, 2), (63, .newarray .long, 2), (65, .putfield 16, 3), (68, .aload_n 0, 1), (69, .bipush 8, 2), (71, .newarray .int, 2), (73, .putfield 45, 3), (76, .aload_n 0, 1), (77, .sipush 160, 3), (80, .newarray .int, 2), (82, .dup, 1), (83, .iconst 0, 1), (84, .iconst 0, 1), (85, .iastore, 1), (86, .dup, 1), (87, .iconst 1, 1), (88, .iconst 1, 1), (89, .iastore, 1), (90, .dup, 1), (91, .iconst 2, 1), (92, .iconst 2, 1), (93, .iastore, 1), (94, .dup, 1), (95, .iconst 3, 1), (96, .iconst 3, 1), (97, .iastore, 1), (98, .dup, 1), (99, .iconst 4, 1), (100, .iconst 4, 1), (101, .iastore, 1), (102, .dup, 1), (103, .iconst 5, 1), (104, .iconst 5, 1), (105, .iastore, 1), (106, .dup, 1), (107, .bipush 6, 2), (109, .bipush 6, 2), (111, .iastore, 1), (112, .dup, 1), (113, .bipush 7, 2), (115, .bipush 7, 2), (117, .iastore, 1), (118, .dup, 1), (119, .bipush 8, 2), (121, .bipush 8, 2), (123, .iastore, 1), (124, .dup, 1), (125, .bipush 9, 2), (127, .bipush 9, 2), (129, .iastore, 1), (130, .dup, 1), (131, .bipush 10, 2), (133, .bipush 10, 2), (135, .iastore, 1), (136, .dup, 1), (137, .bipush 11, 2), (139, .bipush 11, 2), (141, .iastore, 1), (142, .dup, 1), (143, .bipush 12, 2), (145, .bipush 12, 2), (147, .iastore, 1), (148, .dup, 1), (149, .bipush 13, 2), (151, .bipush 13, 2), (153, .iastore, 1), (154, .dup, 1), (155, .bipush 14, 2), (157, .bipush 14, 2), (159, .iastore, 1), (160, .dup, 1), (161, .bipush 15, 2), (163, .bipush 15, 2), (165, .iastore, 1), (166, .dup, 1), (167, .bipush 16, 2), (169, .bipush 7, 2), (171, .iastore, 1), (172, .dup, 1), (173, .bipush 17, 2), (175, .iconst 4, 1), (176, .iastore, 1), (177, .dup, 1), (178, .bipush 18, 2), (180, .bipush 13, 2), (182, .iastore, 1), (183, .dup, 1), (184, .bipush 19, 2), (186, .iconst 1, 1), (187, .iastore, 1), (188, .dup, 1), (189, .bipush 20, 2), (191, .bipush 10, 2), (193, .iastore, 1), (194, .dup, 1), (195, .bipush 21, 2), (197, .bipush 6, 2), (199, .iastore, 1), (200, .dup, 1), (201, .bipush 22, 2), (203, .bipush 15, 2), (205, .iastore, 1), (206, .dup, 1), (207, .bipush 23, 2), (209, .iconst 3, 1), (210, .iastore, 1), (211, .dup, 1), (212, .bipush 24, 2), (214, .bipush 12, 2), (216, .iastore, 1), (217, .dup, 1), (218, .bipush 25, 2), (220, .iconst 0, 1), (221, .iastore, 1), (222, .dup, 1), (223, .bipush 26, 2), (225, .bipush 9, 2), (227, .iastore, 1), (228, .dup, 1), (229, .bipush 27, 2), (231, .iconst 5, 1), (232, .iastore, 1), (233, .dup, 1), (234, .bipush 28, 2), (236, .iconst 2, 1), (237, .iastore, 1), (238, .dup, 1), (239, .bipush 29, 2), (241, .bipush 14, 2), (243, .iastore, 1), (244, .dup, 1), (245, .bipush 30, 2), (247, .bipush 11, 2), (249, .iastore, 1), (250, .dup, 1), (251, .bipush 31, 2), (253, .bipush 8, 2), (255, .iastore, 1), (256, .dup, 1), (257, .bipush 32, 2), (259, .iconst 3, 1), (260, .iastore, 1), (261, .dup, 1), (262, .bipush 33, 2), (264, .bipush 10, 2), (266, .iastore, 1), (267, .dup, 1), (268, .bipush 34, 2), (270, .bipush 14, 2), (272, .iastore, 1), (273, .dup, 1), (274, .bipush 35, 2), (276, .iconst 4, 1), (277, .iastore, 1), (278, .dup, 1), (279, .bipush 36, 2), (281, .bipush 9, 2), (283, .iastore, 1), (284, .dup, 1), (285, .bipush 37, 2), (287, .bipush 15, 2), (289, .iastore, 1), (290, .dup, 1), (291, .bipush 38, 2), (293, .bipush 8, 2), (295, .iastore, 1), (296, .dup, 1), (297, .bipush 39, 2), (299, .iconst 1, 1), (300, .iastore, 1), (301, .dup, 1), (302, .bipush 40, 2), (304, .iconst 2, 1), (305, .iastore, 1), (306, .dup, 1), (307, .bipush 41, 2), (309, .bipush 7, 2), (311, .iastore, 1), (312, .dup, 1), (313, .bipush 42, 2), (315, .iconst 0, 1), (316, .iastore, 1), (317, .dup, 1), (318, .bipush 43, 2), (320, .bipush 6, 2), (322, .iastore, 1), (323, .dup, 1), (324, .bipush 44, 2), (326, .bipush 13, 2), (328, .iastore, 1), (329, .dup, 1), (330, .bipush 45, 2), (332, .bipush 11, 2), (334, .iastore, 1), (335, .dup, 1), (336, .bipush 46, 2), (338, .iconst 5, 1), (339, .iastore, 1), (340, .dup, 1), (341, .bipush 47, 2), (343, .bipush 12, 2), (345, .iastore, 1), (346, .dup, 1), (347, .bipush 48, 2), (349, .iconst 1, 1), (350, .iastore, 1), (351, .dup, 1), (352, .bipush 49, 2), (354, .bipush 9, 2), (356, .iastore, 1), (357, .dup, 1), (358, .bipush 50, 2), (360, .bipush 11, 2), (362, .iastore, 1), (363, .dup, 1), (364, .bipush 51, 2), (366, .bipush 10, 2), (368, .iastore, 1), (369, .dup, 1), (370, .bipush 52, 2), (372, .iconst 0, 1), (373, .iastore, 1), (374, .dup, 1), (375, .bipush 53, 2), (377, .bipush 8, 2), (379, .iastore, 1), (380, .dup, 1), (381, .bipush 54, 2), (383, .bipush 12, 2), (385, .iastore, 1), (386, .dup, 1), (387, .bipush 55, 2), (389, .iconst 4, 1), (390, .iastore, 1), (391, .dup, 1), (392, .bipush 56, 2), (394, .bipush 13, 2), (396, .iastore, 1), (397, .dup, 1), (398, .bipush 57, 2), (400, .iconst 3, 1), (401, .iastore, 1), (402, .dup, 1), (403, .bipush 58, 2), (405, .bipush 7, 2), (407, .iastore, 1), (408, .dup, 1), (409, .bipush 59, 2), (411, .bipush 15, 2), (413, .iastore, 1), (414, .dup, 1), (415, .bipush 60, 2), (417, .bipush 14, 2), (419, .iastore, 1), (420, .dup, 1), (421, .bipush 61, 2), (423, .iconst 5, 1), (424, .iastore, 1), (425, .dup, 1), (426, .bipush 62, 2), (428, .bipush 6, 2), (430, .iastore, 1), (431, .dup, 1), (432, .bipush 63, 2), (434, .iconst 2, 1), (435, .iastore, 1), (436, .dup, 1), (437, .bipush 64, 2), (439, .iconst 4, 1)]
set_option maxRecDepth 100000 in
theorem daX16_init_c0 : dk_all cX16_init drX16_init_c0 = true := by decide +kernel
theorem dX16_init_0 : decode cX16_init 0 = .ok (.aload_n 0, 1) := dk_get daX16_init_c0 0 (r := (0, .aload_n 0, 1)) rfl
theorem dX16_init_1 : decode cX16_init 1 = .ok (.invokespecial 773, 3) := dk_get daX16_init_c0 1 (r := (1, .invokespecial 773, 3)) rfl
theorem dX16_init_4 : decode cX16_init 4 = .ok (.aload_n 0, 1) := dk_get daX16_init_c0 2 (r := (4, .aload_n 0, 1)) rfl
theorem dX16_init_5 : decode cX16_init 5 = .ok (.sipush 128, 3) := dk_get daX16_init_c0 3 (r := (5, .sipush 128, 3)) rfl
theorem dX16_init_8 : decode cX16_init 8 = .ok (.newarray .byte, 2) := dk_get daX16_init_c0 4 (r := (8, .newarray .byte, 2)) rfl
theorem dX16_init_10 : decode cX16_init 10 = .ok (.putfield 34, 3) := dk_get daX16_init_c0 5 (r := (10, .putfield 34, 3)) rfl
theorem dX16_init_13 : decode cX16_init 13 = .ok (.aload_n 0, 1) := dk_get daX16_init_c0 6 (r := (13, .aload_n 0, 1)) rfl
theorem dX16_init_14 : decode cX16_init 14 = .ok (.bipush 8, 2) := dk_get daX16_init_c0 7 (r := (14, .bipush 8, 2)) rfl
theorem dX16_init_16 : decode cX16_init 16 = .ok (.newarray .int, 2) := dk_get daX16_init_c0 8 (r := (16, .newarray .int, 2)) rfl
theorem dX16_init_18 : decode cX16_init 18 = .ok (.putfield 19, 3) := dk_get daX16_init_c0 9 (r := (18, .putfield 19, 3)) rfl
theorem dX16_init_21 : decode cX16_init 21 = .ok (.aload_n 0, 1) := dk_get daX16_init_c0 10 (r := (21, .aload_n 0, 1)) rfl
theorem dX16_init_22 : decode cX16_init 22 = .ok (.bipush 64, 2) := dk_get daX16_init_c0 11 (r := (22, .bipush 64, 2)) rfl
theorem dX16_init_24 : decode cX16_init 24 = .ok (.newarray .int, 2) := dk_get daX16_init_c0 12 (r := (24, .newarray .int, 2)) rfl
theorem dX16_init_26 : decode cX16_init 26 = .ok (.putfield 38, 3) := dk_get daX16_init_c0 13 (r := (26, .putfield 38, 3)) rfl
theorem dX16_init_29 : decode cX16_init 29 = .ok (.aload_n 0, 1) := dk_get daX16_init_c0 14 (r := (29, .aload_n 0, 1)) rfl
theorem dX16_init_30 : decode cX16_init 30 = .ok (.bipush 8, 2) := dk_get daX16_init_c0 15 (r := (30, .bipush 8, 2)) rfl
theorem dX16_init_32 : decode cX16_init 32 = .ok (.newarray .int, 2) := dk_get daX16_init_c0 16 (r := (32, .newarray .int, 2)) rfl
theorem dX16_init_34 : decode cX16_init 34 = .ok (.putfield 23, 3) := dk_get daX16_init_c0 17 (r := (34, .putfield 23, 3)) rfl
theorem dX16_init_37 : decode cX16_init 37 = .ok (.aload_n 0, 1) := dk_get daX16_init_c0 18 (r := (37, .aload_n 0, 1)) rfl
theorem dX16_init_38 : decode cX16_init 38 = .ok (.bipush 64, 2) := dk_get daX16_init_c0 19 (r := (38, .bipush 64, 2)) rfl
theorem dX16_init_40 : decode cX16_init 40 = .ok (.newarray .int, 2) := dk_get daX16_init_c0 20 (r := (40, .newarray .int, 2)) rfl
theorem dX16_init_42 : decode cX16_init 42 = .ok (.putfield 48, 3) := dk_get daX16_init_c0 21 (r := (42, .putfield 48, 3)) rfl
theorem dX16_init_45 : decode cX16_init 45 = .ok (.aload_n 0, 1) := dk_get daX16_init_c0 22 (r := (45, .aload_n 0, 1)) rfl
theorem dX16_init_46 : decode cX16_init 46 = .ok (.iconst 3, 1) := dk_get daX16_init_c0 23 (r := (46, .iconst 3, 1)) rfl
theorem dX16_init_47 : decode cX16_init 47 = .ok (.newarray .long, 2) := dk_get daX16_init_c0 24 (r := (47, .newarray .long, 2)) rfl
theorem dX16_init_49 : decode cX16_init 49 = .ok (.putfield 1, 3) := dk_get daX16_init_c0 25 (r := (49, .putfield 1, 3)) rfl
theorem dX16_init_52 : decode cX16_init 52 = .ok (.aload_n 0, 1) := dk_get daX16_init_c0 26 (r := (52, .aload_n 0, 1)) rfl
theorem dX16_init_53 : decode cX16_init 53 = .ok (.bipush 6, 2) := dk_get daX16_init_c0 27 (r := (53, .bipush 6, 2)) rfl
theorem dX16_init_55 : decode cX16_init 55 = .ok (.newarray .long, 2) := dk_get daX16_init_c0 28 (r := (55, .newarray .long, 2)) rfl
theorem dX16_init_57 : decode cX16_init 57 = .ok (.putfield 9, 3) := dk_get daX16_init_c0 29 (r := (57, .putfield 9, 3)) rfl
theorem dX16_init_60 : decode cX16_init 60 = .ok (.aload_n 0, 1) := dk_get daX16_init_c0 30 (r := (60, .aload_n 0, 1)) rfl
theorem dX16_init_61 : decode cX16_init 61 = .ok (.bipush 9, 2) := dk_get daX16_init_c0 31 (r := (61, .bipush 9, 2)) rfl
theorem dX16_init_63 : decode cX16_init 63 = .ok (.newarray .long, 2) := dk_get daX16_init_c0 32 (r := (63, .newarray .long, 2)) rfl
theorem dX16_init_65 : decode cX16_init 65 = .ok (.putfield 16, 3) := dk_get daX16_init_c0 33 (r := (65, .putfield 16, 3)) rfl
theorem dX16_init_68 : decode cX16_init 68 = .ok (.aload_n 0, 1) := dk_get daX16_init_c0 34 (r := (68, .aload_n 0, 1)) rfl
theorem dX16_init_69 : decode cX16_init 69 = .ok (.bipush 8, 2) := dk_get daX16_init_c0 35 (r := (69, .bipush 8, 2)) rfl
theorem dX16_init_71 : decode cX16_init 71 = .ok (.newarray .int, 2) := dk_get daX16_init_c0 36 (r := (71, .newarray .int, 2)) rfl
theorem dX16_init_73 : decode cX16_init 73 = .ok (.putfield 45, 3) := dk_get daX16_init_c0 37 (r := (73, .putfield 45, 3)) rfl
theorem dX16_init_76 : decode cX16_init 76 = .ok (.aload_n 0, 1) := dk_get daX16_init_c0 38 (r := (76, .aload_n 0, 1)) rfl
theorem dX16_init_77 : decode cX16_init 77 = .ok (.sipush 160, 3) := dk_get daX16_init_c0 39 (r := (77, .sipush 160, 3)) rfl
theorem dX16_init_80 : decode cX16_init 80 = .ok (.newarray .int, 2) := dk_get daX16_init_c0 40 (r := (80, .newarray .int, 2)) rfl
theorem dX16_init_82 : decode cX16_init 82 = .ok (.dup, 1) := dk_get daX16_init_c0 41 (r := (82, .dup, 1)) rfl
theorem dX16_init_83 : decode cX16_init 83 = .ok (.iconst 0, 1) := dk_get daX16_init_c0 42 (r := (83, .iconst 0, 1)) rfl
theorem dX16_init_84 : decode cX16_init 84 = .ok (.iconst 0, 1) := dk_get daX16_init_c0 43 (r := (84, .iconst 0, 1)) rfl
theorem dX16_init_85 : decode cX16_init 85 = .ok (.iastore, 1) := dk_get daX16_init_c0 44 (r := (85, .iastore, 1)) rfl
theorem dX16_init_86 : decode cX16_init 86 = .ok (.dup, 1) := dk_get daX16_init_c0 45 (r := (86, .dup, 1)) rfl
theorem dX16_init_87 : decode cX16_init 87 = .ok (.iconst 1, 1) := dk_get daX16_init_c0 46 (r := (87, .iconst 1, 1)) rfl
theorem dX16_init_88 : decode cX16_init 88 = .ok (.iconst 1, 1) := dk_get daX16_init_c0 47 (r := (88, .iconst 1, 1)) rfl
theorem dX16_init_89 : decode cX16_init 89 = .ok (.iastore, 1) := dk_get daX16_init_c0 48 (r := (89, .iastore, 1)) rfl
theorem dX16_init_90 : decode cX16_init 90 = .ok (.dup, 1) := dk_get daX16_init_c0 49 (r := (90, .dup, 1)) rfl
theorem dX16_init_91 : decode cX16_init 91 = .ok (.iconst 2, 1) := dk_get daX16_init_c0 50 (r := (91, .iconst 2, 1)) rfl
theorem dX16_init_92 : decode cX16_init 92 = .ok (.iconst 2, 1) := dk_get daX16_init_c0 51 (r := (92, .iconst 2, 1)) rfl
theorem dX16_init_93 : decode cX16_init 93 = .ok (.iastore, 1) := dk_get daX16_init_c0 52 (r := (93, .iastore, 1)) rfl
theorem dX16_init_94 : decode cX16_init 94 = .ok (.dup, 1) := dk_get daX16_init_c0 53 (r := (94, .dup, 1)) rfl
theorem dX16_init_95 : decode cX16_init 95 = .ok (.iconst 3, 1) := dk_get daX16_init_c0 54 (r := (95, .iconst 3, 1)) rfl
theorem dX16_init_96 : decode cX16_init 96 = .ok (.iconst 3, 1) := dk_get daX16_init_c0 55 (r := (96, .iconst 3, 1)) rfl
theorem dX16_init_97 : decode cX16_init 97 = .ok (.iastore, 1) := dk_get daX16_init_c0 56 (r := (97, .iastore, 1)) rfl
theorem dX16_init_98 : decode cX16_init 98 = .ok (.dup, 1) := dk_get daX16_init_c0 57 (r := (98, .dup, 1)) rfl
theorem dX16_init_99 : decode cX16_init 99 = .ok (.iconst 4, 1) := dk_get daX16_init_c0 58 (r := (99, .iconst 4, 1)) rfl
theorem dX16_init_100 : decode cX16_init 100 = .ok (.iconst 4, 1) := dk_get daX16_init_c0 59 (r := (100, .iconst 4, 1)) rfl
theorem dX16_init_101 : decode cX16_init 101 = .ok (.iastore, 1) := dk_get daX16_init_c0 60 (r := (101, .iastore, 1)) rfl
theorem dX16_init_102 : decode cX16_init 102 = .ok (.dup, 1) := dk_get daX16_init_c0 61 (r := (102, .dup, 1)) rfl
theorem dX16_init_103 : decode cX16_init 103 = .ok (.iconst 5, 1) := dk_get daX16_init_c0 62 (r := (103, .iconst 5, 1)) rfl
theorem dX16_init_104 : decode cX16_init 104 = .ok (.iconst 5, 1) := dk_get daX16_init_c0 63 (r := (104, .iconst 5, 1)) rfl
theorem dX16_init_105 : decode cX16_init 105 = .ok (.iastore, 1) := dk_get daX16_init_c0 64 (r := (105, .iastore, 1)) rfl
theorem dX16_init_106 : decode cX16_init 106 = .ok (.dup, 1) := dk_get daX16_init_c0 65 (r := (106, .dup, 1)) rfl
theorem dX16_init_107 : decode cX16_init 107 = .ok (.bipush 6, 2) := dk_get daX16_init_c0 66 (r := (107, .bipush 6, 2)) rfl
theorem dX16_init_109 : decode cX16_init 109 = .ok (.bipush 6, 2) := dk_get daX16_init_c0 67 (r := (109, .bipush 6, 2)) rfl
theorem dX16_init_111 : decode cX16_init 111 = .ok (.iastore, 1) := dk_get daX16_init_c0 68 (r := (111, .iastore, 1)) rfl
theorem dX16_init_112 : decode cX16_init 112 = .ok (.dup, 1) := dk_get daX16_init_c0 69 (r := (112, .dup, 1)) rfl
theorem dX16_init_113 : decode cX16_init 113 = .ok (.bipush 7, 2) := dk_get daX16_init_c0 70 (r := (113, .bipush 7, 2)) rfl
theorem dX16_init_115 : decode cX16_init 115 = .ok (.bipush 7, 2) := dk_get daX16_init_c0 71 (r := (115, .bipush 7, 2)) rfl
theorem dX16_init_117 : decode cX16_init 117 = .ok (.iastore, 1) := dk_get daX16_init_c0 72 (r := (117, .iastore, 1)) rfl
theorem dX16_init_118 : decode cX16_init 118 = .ok (.dup, 1) := dk_get daX16_init_c0 73 (r := (118, .dup, 1)) rfl
theorem dX16_init_119 : decode cX16_init 119 = .ok (.bipush 8, 2) := dk_get daX16_init_c0 74 (r := (119, .bipush 8, 2)) rfl
theorem dX16_init_121 : decode cX16_init 121 = .ok (.bipush 8, 2) := dk_get daX16_init_c0 75 (r := (121, .bipush 8, 2)) rfl
theorem dX16_init_123 : decode cX16_init 123 = .ok (.iastore, 1) := dk_get daX16_init_c0 76 (r := (123, .iastore, 1)) rfl
theorem dX16_init_124 : decode cX16_init 124 = .ok (.dup, 1) := dk_get daX16_init_c0 77 (r := (124, .dup, 1)) rfl
theorem dX16_init_125 : decode cX16_init 125 = .ok (.bipush 9, 2) := dk_get daX16_init_c0 78 (r := (125, .bipush 9, 2)) rfl
theorem dX16_init_127 : decode cX16_init 127 = .ok (.bipush 9, 2) := dk_get daX16_init_c0 79 (r := (127, .bipush 9, 2)) rfl
theorem dX16_init_129 : decode cX16_init 129 = .ok (.iastore, 1) := dk_get daX16_init_c0 80 (r := (129, .iastore, 1)) rfl
theorem dX16_init_130 : decode cX16_init 130 = .ok (.dup, 1) := dk_get daX16_init_c0 81 (r := (130, .dup, 1)) rfl
theorem dX16_init_131 : decode cX16_init 131 = .ok (.bipush 10, 2) := dk_get daX16_init_c0 82 (r := (131, .bipush 10, 2)) rfl
theorem dX16_init_133 : decode cX16_init 133 = .ok (.bipush 10, 2) := dk_get daX16_init_c0 83 (r := (133, .bipush 10, 2)) rfl
theorem dX16_init_135 : decode cX16_init 135 = .ok (.iastore, 1) := dk_get daX16_init_c0 84 (r := (135, .iastore, 1)) rfl
theorem dX16_init_136 : decode cX16_init 136 = .ok (.dup, 1) := dk_get daX16_init_c0 85 (r := (136, .dup, 1)) rfl
theorem dX16_init_137 : decode cX16_init 137 = .ok (.bipush 11, 2) := dk_get daX16_init_c0 86 (r := (137, .bipush 11, 2)) rfl
theorem dX16_init_139 : decode cX16_init 139 = .ok (.bipush 11, 2) := dk_get daX16_init_c0 87 (r := (139, .bipush 11, 2)) rfl
theorem dX16_init_141 : decode cX16_init 141 = .ok (.iastore, 1) := dk_get daX16_init_c0 88 (r := (141, .iastore, 1)) rfl
theorem dX16_init_142 : decode cX16_init 142 = .ok (.dup, 1) := dk_get daX16_init_c0 89 (r := (142, .dup, 1)) rfl
theorem dX16_init_143 : decode cX16_init 143 = .ok (.bipush 12, 2) := dk_get daX16_init_c0 90 (r := (143, .bipush 12, 2)) rfl
theorem dX16_init_145 : decode cX16_init 145 = .ok (.bipush 12, 2) := dk_get daX16_init_c0 91 (r := (145, .bipush 12, 2)) rfl
theorem dX16_init_147 : decode cX16_init 147 = .ok (.iastore, 1) := dk_get daX16_init_c0 92 (r := (147, .iastore, 1)) rfl
theorem dX16_init_148 : decode cX16_init 148 = .ok (.dup, 1) := dk_get daX16_init_c0 93 (r := (148, .dup, 1)) rfl
theorem dX16_init_149 : decode cX16_init 149 = .ok (.bipush 13, 2) := dk_get daX16_init_c0 94 (r := (149, .bipush 13, 2)) rfl
theorem dX16_init_151 : decode cX16_init 151 = .ok (.bipush 13, 2) := dk_get daX16_init_c0 95 (r := (151, .bipush 13, 2)) rfl
theorem dX16_init_153 : decode cX16_init 153 = .ok (.iastore, 1) := dk_get daX16_init_c0 96 (r := (153, .iastore, 1)) rfl
theorem dX16_init_154 : decode cX16_init 154 = .ok (.dup, 1) := dk_get daX16_init_c0 97 (r := (154, .dup, 1)) rfl
theorem dX16_init_155 : decode cX16_init 155 = .ok (.bipush 14, 2) := dk_get daX16_init_c0 98 (r := (155, .bipush 14, 2)) rfl
theorem dX16_init_157 : decode cX16_init 157 = .ok (.bipush 14, 2) := dk_get daX16_init_c0 99 (r := (157, .bipush 14, 2)) rfl
theorem dX16_init_159 : decode cX16_init 159 = .ok (.iastore, 1) := dk_get daX16_init_c0 100 (r := (159, .iastore, 1)) rfl
theorem dX16_init_160 : decode cX16_init 160 = .ok (.dup, 1) := dk_get daX16_init_c0 101 (r := (160, .dup, 1)) rfl
theorem dX16_init_161 : decode cX16_init 161 = .ok (.bipush 15, 2) := dk_get daX16_init_c0 102 (r := (161, .bipush 15, 2)) rfl
theorem dX16_init_163 : decode cX16_init 163 = .ok (.bipush 15, 2) := dk_get daX16_init_c0 103 (r := (163, .bipush 15, 2)) rfl
theorem dX16_init_165 : decode cX16_init 165 = .ok (.iastore, 1) := dk_get daX16_init_c0 104 (r := (165, .iastore, 1)) rfl
theorem dX16_init_166 : decode cX16_init 166 = .ok (.dup, 1) := dk_get daX16_init_c0 105 (r := (166, .dup, 1)) rfl
theorem dX16_init_167 : decode cX16_init 167 = .ok (.bipush 16, 2) := dk_get daX16_init_c0 106 (r := (167, .bipush 16, 2)) rfl
theorem dX16_init_169 : decode cX16_init 169 = .ok (.bipush 7, 2) := dk_get daX16_init_c0 107 (r := (169, .bipush 7, 2)) rfl
theorem dX16_init_171 : decode cX16_init 171 = .ok (.iastore, 1) := dk_get daX16_init_c0 108 (r := (171, .iastore, 1)) rfl
theorem dX16_init_172 : decode cX16_init 172 = .ok (.dup, 1) := dk_get daX16_init_c0 109 (r := (172, .dup, 1)) rfl
theorem dX16_init_173 : decode cX16_init 173 = .ok (.bipush 17, 2) := dk_get daX16_init_c0 110 (r := (173, .bipush 17, 2)) rfl
theorem dX16_init_175 : decode cX16_init 175 = .ok (.iconst 4, 1) := dk_get daX16_init_c0 111 (r := (175, .iconst 4, 1)) rfl
theorem dX16_init_176 : decode cX16_init 176 = .ok (.iastore, 1) := dk_get daX16_init_c0 112 (r := (176, .iastore, 1)) rfl
theorem dX16_init_177 : decode cX16_init 177 = .ok (.dup, 1) := dk_get daX16_init_c0 113 (r := (177, .dup, 1)) rfl
theorem dX16_init_178 : decode cX16_init 178 = .ok (.bipush 18, 2) := dk_get daX16_init_c0 114 (r := (178, .bipush 18, 2)) rfl
theorem dX16_init_180 : decode cX16_init 180 = .ok (.bipush 13, 2) := dk_get daX16_init_c0 115 (r := (180, .bipush 13, 2)) rfl
theorem dX16_init_182 : decode cX16_init 182 = .ok (.iastore, 1) := dk_get daX16_init_c0 116 (r := (182, .iastore, 1)) rfl
theorem dX16_init_183 : decode cX16_init 183 = .ok (.dup, 1) := dk_get daX16_init_c0 117 (r := (183, .dup, 1)) rfl
theorem dX16_init_184 : decode cX16_init 184 = .ok (.bipush 19, 2) := dk_get daX16_init_c0 118 (r := (184, .bipush 19, 2)) rfl
theorem dX16_init_186 : decode cX16_init 186 = .ok (.iconst 1, 1) := dk_get daX16_init_c0 119 (r := (186, .iconst 1, 1)) rfl
theorem dX16_init_187 : decode cX16_init 187 = .ok (.iastore, 1) := dk_get daX16_init_c0 120 (r := (187, .iastore, 1)) rfl
theorem dX16_init_188 : decode cX16_init 188 = .ok (.dup, 1) := dk_get daX16_init_c0 121 (r := (188, .dup, 1)) rfl
theorem dX16_init_189 : decode cX16_init 189 = .ok (.bipush 20, 2) := dk_get daX16_init_c0 122 (r := (189, .bipush 20, 2)) rfl
theorem dX16_init_191 : decode cX16_init 191 = .ok (.bipush 10, 2) := dk_get daX16_init_c0 123 (r := (191, .bipush 10, 2)) rfl
theorem dX16_init_193 : decode cX16_init 193 = .ok (.iastore, 1) := dk_get daX16_init_c0 124 (r := (193, .iastore, 1)) rfl
theorem dX16_init_194 : decode cX16_init 194 = .ok (.dup, 1) := dk_get daX16_init_c0 125 (r := (194, .dup, 1)) rfl
theorem dX16_init_195 : decode cX16_init 195 = .ok (.bipush 21, 2) := dk_get daX16_init_c0 126 (r := (195, .bipush 21, 2)) rfl
theorem dX16_init_197 : decode cX16_init 197 = .ok (.bipush 6, 2) := dk_get daX16_init_c0 127 (r := (197, .bipush 6, 2)) rfl
theorem dX16_init_199 : decode cX16_init 199 = .ok (.iastore, 1) := dk_get daX16_init_c0 128 (r := (199, .iastore, 1)) rfl
theorem dX16_init_200 : decode cX16_init 200 = .ok (.dup, 1) := dk_get daX16_init_c0 129 (r := (200, .dup, 1)) rfl
theorem dX16_init_201 : decode cX16_init 201 = .ok (.bipush 22, 2) := dk_get daX16_init_c0 130 (r := (201, .bipush 22, 2)) rfl
theorem dX16_init_203 : decode cX16_init 203 = .ok (.bipush 15, 2) := dk_get daX16_init_c0 131 (r := (203, .bipush 15, 2)) rfl
theorem dX16_init_205 : decode cX16_init 205 = .ok (.iastore, 1) := dk_get daX16_init_c0 132 (r := (205, .iastore, 1)) rfl
theorem dX16_init_206 : decode cX16_init 206 = .ok (.dup, 1) := dk_get daX16_init_c0 133 (r := (206, .dup, 1)) rfl
theorem dX16_init_207 : decode cX16_init 207 = .ok (.bipush 23, 2) := dk_get daX16_init_c0 134 (r := (207, .bipush 23, 2)) rfl
theorem dX16_init_209 : decode cX16_init 209 = .ok (.iconst 3, 1) := dk_get daX16_init_c0 135 (r := (209, .iconst 3, 1)) rfl
theorem dX16_init_210 : decode cX16_init 210 = .ok (.iastore, 1) := dk_get daX16_init_c0 136 (r := (210, .iastore, 1)) rfl
theorem dX16_init_211 : decode cX16_init 211 = .ok (.dup, 1) := dk_get daX16_init_c0 137 (r := (211, .dup, 1)) rfl
theorem dX16_init_212 : decode cX16_init 212 = .ok (.bipush 24, 2) := dk_get daX16_init_c0 138 (r := (212, .bipush 24, 2)) rfl
theorem dX16_init_214 : decode cX16_init 214 = .ok (.bipush 12, 2) := dk_get daX16_init_c0 139 (r := (214, .bipush 12, 2)) rfl
theorem dX16_init_216 : decode cX16_init 216 = .ok (.iastore, 1) := dk_get daX16_init_c0 140 (r := (216, .iastore, 1)) rfl
theorem dX16_init_217 : decode cX16_init 217 = .ok (.dup, 1) := dk_get daX16_init_c0 141 (r := (217, .dup, 1)) rfl
theorem dX16_init_218 : decode cX16_init 218 = .ok (.bipush 25, 2) := dk_get daX16_init_c0 142 (r := (218, .bipush 25, 2)) rfl
theorem dX16_init_220 : decode cX16_init 220 = .ok (.iconst 0, 1) := dk_get daX16_init_c0 143 (r := (220, .iconst 0, 1)) rfl
theorem dX16_init_221 : decode cX16_init 221 = .ok (.iastore, 1) := dk_get daX16_init_c0 144 (r := (221, .iastore, 1)) rfl
theorem dX16_init_222 : decode cX16_init 222 = .ok (.dup, 1) := dk_get daX16_init_c0 145 (r := (222, .dup, 1)) rfl
theorem dX16_init_223 : decode cX16_init 223 = .ok (.bipush 26, 2) := dk_get daX16_init_c0 146 (r := (223, .bipush 26, 2)) rfl
theorem dX16_init_225 : decode cX16_init 225 = .ok (.bipush 9, 2) := dk_get daX16_init_c0 147 (r := (225, .bipush 9, 2)) rfl
theorem dX16_init_227 : decode cX16_init 227 = .ok (.iastore, 1) := dk_get daX16_init_c0 148 (r := (227, .iastore, 1)) rfl
theorem dX16_init_228 : decode cX16_init 228 = .ok (.dup, 1) := dk_get daX16_init_c0 149 (r := (228, .dup, 1)) rfl
theorem dX16_init_229 : decode cX16_init 229 = .ok (.bipush 27, 2) := dk_get daX16_init_c0 150 (r := (229, .bipush 27, 2)) rfl
theorem dX16_init_231 : decode cX16_init 231 = .ok (.iconst 5, 1) := dk_get daX16_init_c0 151 (r := (231, .iconst 5, 1)) rfl
theorem dX16_init_232 : decode cX16_init 232 = .ok (.iastore, 1) := dk_get daX16_init_c0 152 (r := (232, .iastore, 1)) rfl
theorem dX16_init_233 : decode cX16_init 233 = .ok (.dup, 1) := dk_get daX16_init_c0 153 (r := (233, .dup, 1)) rfl
theorem dX16_init_234 : decode cX16_init 234 = .ok (.bipush 28, 2) := dk_get daX16_init_c0 154 (r := (234, .bipush 28, 2)) rfl
theorem dX16_init_236 : decode cX16_init 236 = .ok (.iconst 2, 1) := dk_get daX16_init_c0 155 (r := (236, .iconst 2, 1)) rfl
theorem dX16_init_237 : decode cX16_init 237 = .ok (.iastore, 1) := dk_get daX16_init_c0 156 (r := (237, .iastore, 1)) rfl
theorem dX16_init_238 : decode cX16_init 238 = .ok (.dup, 1) := dk_get daX16_init_c0 157 (r := (238, .dup, 1)) rfl
theorem dX16_init_239 : decode cX16_init 239 = .ok (.bipush 29, 2) := dk_get daX16_init_c0 158 (r := (239, .bipush 29, 2)) rfl
theorem dX16_init_241 : decode cX16_init 241 = .ok (.bipush 14, 2) := dk_get daX16_init_c0 159 (r := (241, .bipush 14, 2)) rfl
theorem dX16_init_243 : decode cX16_init 243 = .ok (.iastore, 1) := dk_get daX16_init_c0 160 (r := (243, .iastore, 1)) rfl
theorem dX16_init_244 : decode cX16_init 244 = .ok (.dup, 1) := dk_get daX16_init_c0 161 (r := (244, .dup, 1)) rfl
theorem dX16_init_245 : decode cX16_init 245 = .ok (.bipush 30, 2) := dk_get daX16_init_c0 162 (r := (245, .bipush 30, 2)) rfl
theorem dX16_init_247 : decode cX16_init 247 = .ok (.bipush 11, 2) := dk_get daX16_init_c0 163 (r := (247, .bipush 11, 2)) rfl
theorem dX16_init_249 : decode cX16_init 249 = .ok (.iastore, 1) := dk_get daX16_init_c0 164 (r := (249, .iastore, 1)) rfl
theorem dX16_init_250 : decode cX16_init 250 = .ok (.dup, 1) := dk_get daX16_init_c0 165 (r := (250, .dup, 1)) rfl
theorem dX16_init_251 : decode cX16_init 251 = .ok (.bipush 31, 2) := dk_get daX16_init_c0 166 (r := (251, .bipush 31, 2)) rfl
theorem dX16_init_253 : decode cX16_init 253 = .ok (.bipush 8, 2) := dk_get daX16_init_c0 167 (r := (253, .bipush 8, 2)) rfl
theorem dX16_init_255 : decode cX16_init 255 = .ok (.iastore, 1) := dk_get daX16_init_c0 168 (r := (255, .iastore, 1)) rfl
theorem dX16_init_256 : decode cX16_init 256 = .ok (.dup, 1) := dk_get daX16_init_c0 169 (r := (256, .dup, 1)) rfl
theorem dX16_init_257 : decode cX16_init 257 = .ok (.bipush 32, 2) := dk_get daX16_init_c0 170 (r := (257, .bipush 32, 2)) rfl
theorem dX16_init_259 : decode cX16_init 259 = .ok (.iconst 3, 1) := dk_get daX16_init_c0 171 (r := (259, .iconst 3, 1)) rfl
theorem dX16_init_260 : decode cX16_init 260 = .ok (.iastore, 1) := dk_get daX16_init_c0 172 (r := (260, .iastore, 1)) rfl
theorem dX16_init_261 : decode cX16_init 261 = .ok (.dup, 1) := dk_get daX16_init_c0 173 (r := (261, .dup, 1)) rfl
theorem dX16_init_262 : decode cX16_init 262 = .ok (.bipush 33, 2) := dk_get daX16_init_c0 174 (r := (262, .bipush 33, 2)) rfl
theorem dX16_init_264 : decode cX16_init 264 = .ok (.bipush 10, 2) := dk_get daX16_init_c0 175 (r := (264, .bipush 10, 2)) rfl
theorem dX16_init_266 : decode cX16_init 266 = .ok (.iastore, 1) := dk_get daX16_init_c0 176 (r := (266, .iastore, 1)) rfl
theorem dX16_init_267 : decode cX16_init 267 = .ok (.dup, 1) := dk_get daX16_init_c0 177 (r := (267, .dup, 1)) rfl
theorem dX16_init_268 : decode cX16_init 268 = .ok (.bipush 34, 2) := dk_get daX16_init_c0 178 (r := (268, .bipush 34, 2)) rfl
theorem dX16_init_270 : decode cX16_init 270 = .ok (.bipush 14, 2) := dk_get daX16_init_c0 179 (r := (270, .bipush 14, 2)) rfl
theorem dX16_init_272 : decode cX16_init 272 = .ok (.iastore, 1) := dk_get daX16_init_c0 180 (r := (272, .iastore, 1)) rfl
theorem dX16_init_273 : decode cX16_init 273 = .ok (.dup, 1) := dk_get daX16_init_c0 181 (r := (273, .dup, 1)) rfl
theorem dX16_init_274 : decode cX16_init 274 = .ok (.bipush 35, 2) := dk_get daX16_init_c0 182 (r := (274, .bipush 35, 2)) rfl
theorem dX16_init_276 : decode cX16_init 276 = .ok (.iconst 4, 1) := dk_get daX16_init_c0 183 (r := (276, .iconst 4, 1)) rfl
theorem dX16_init_277 : decode cX16_init 277 = .ok (.iastore, 1) := dk_get daX16_init_c0 184 (r := (277, .iastore, 1)) rfl
theorem dX16_init_278 : decode cX16_init 278 = .ok (.dup, 1) := dk_get daX16_init_c0 185 (r := (278, .dup, 1)) rfl
theorem dX16_init_279 : decode cX16_init 279 = .ok (.bipush 36, 2) := dk_get daX16_init_c0 186 (r := (279, .bipush 36, 2)) rfl
theorem dX16_init_281 : decode cX16_init 281 = .ok (.bipush 9, 2) := dk_get daX16_init_c0 187 (r := (281, .bipush 9, 2)) rfl
theorem dX16_init_283 : decode cX16_init 283 = .ok (.iastore, 1) := dk_get daX16_init_c0 188 (r := (283, .iastore, 1)) rfl
theorem dX16_init_284 : decode cX16_init 284 = .ok (.dup, 1) := dk_get daX16_init_c0 189 (r := (284, .dup, 1)) rfl
theorem dX16_init_285 : decode cX16_init 285 = .ok (.bipush 37, 2) := dk_get daX16_init_c0 190 (r := (285, .bipush 37, 2)) rfl
theorem dX16_init_287 : decode cX16_init 287 = .ok (.bipush 15, 2) := dk_get daX16_init_c0 191 (r := (287, .bipush 15, 2)) rfl
theorem dX16_init_289 : decode cX16_init 289 = .ok (.iastore, 1) := dk_get daX16_init_c0 192 (r := (289, .iastore, 1)) rfl
theorem dX16_init_290 : decode cX16_init 290 = .ok (.dup, 1) := dk_get daX16_init_c0 193 (r := (290, .dup, 1)) rfl
theorem dX16_init_291 : decode cX16_init 291 = .ok (.bipush 38, 2) := dk_get daX16_init_c0 194 (r := (291, .bipush 38, 2)) rfl
theorem dX16_init_293 : decode cX16_init 293 = .ok (.bipush 8, 2) := dk_get daX16_init_c0 195 (r := (293, .bipush 8, 2)) rfl
theorem dX16_init_295 : decode cX16_init 295 = .ok (.iastore, 1) := dk_get daX16_init_c0 196 (r := (295, .iastore, 1)) rfl
theorem dX16_init_296 : decode cX16_init 296 = .ok (.dup, 1) := dk_get daX16_init_c0 197 (r := (296, .dup, 1)) rfl
theorem dX16_init_297 : decode cX16_init 297 = .ok (.bipush 39, 2) := dk_get daX16_init_c0 198 (r := (297, .bipush 39, 2)) rfl
theorem dX16_init_299 : decode cX16_init 299 = .ok (.iconst 1, 1) := dk_get daX16_init_c0 199 (r := (299, .iconst 1, 1)) rfl
theorem dX16_init_300 : decode cX16_init 300 = .ok (.iastore, 1) := dk_get daX16_init_c0 200 (r := (300, .iastore, 1)) rfl
theorem dX16_init_301 : decode cX16_init 301 = .ok (.dup, 1) := dk_get daX16_init_c0 201 (r := (301, .dup, 1)) rfl
theorem dX16_init_302 : decode cX16_init 302 = .ok (.bipush 40, 2) := dk_get daX16_init_c0 202 (r := (302, .bipush 40, 2)) rfl
theorem dX16_init_304 : decode cX16_init 304 = .ok (.iconst 2, 1) := dk_get daX16_init_c0 203 (r := (304, .iconst 2, 1)) rfl
theorem dX16_init_305 : decode cX16_init 305 = .ok (.iastore, 1) := dk_get daX16_init_c0 204 (r := (305, .iastore, 1)) rfl
theorem dX16_init_306 : decode cX16_init 306 = .ok (.dup, 1) := dk_get daX16_init_c0 205 (r := (306, .dup, 1)) rfl
theorem dX16_init_307 : decode cX16_init 307 = .ok (.bipush 41, 2) := dk_get daX16_init_c0 206 (r := (307, .bipush 41, 2)) rfl
theorem dX16_init_309 : decode cX16_init 309 = .ok (.bipush 7, 2) := dk_get daX16_init_c0 207 (r := (309, .bipush 7, 2)) rfl
theorem dX16_init_311 : decode cX16_init 311 = .ok (.iastore, 1) := dk_get daX16_init_c0 208 (r := (311, .iastore, 1)) rfl
theorem dX16_init_312 : decode cX16_init 312 = .ok (.dup, 1) := dk_get daX16_init_c0 209 (r := (312, .dup, 1)) rfl
theorem dX16_init_313 : decode cX16_init 313 = .ok (.bipush 42, 2) := dk_get daX16_init_c0 210 (r := (313, .bipush 42, 2)) rfl
theorem dX16_init_315 : decode cX16_init 315 = .ok (.iconst 0, 1) := dk_get daX16_init_c0 211 (r := (315, .iconst 0, 1)) rfl
theorem dX16_init_316 : decode cX16_init 316 = .ok (.iastore, 1) := dk_get daX16_init_c0 212 (r := (316, .iastore, 1)) rfl
theorem dX16_init_317 : decode cX16_init 317 = .ok (.dup, 1) := dk_get daX16_init_c0 213 (r := (317, .dup, 1)) rfl
theorem dX16_init_318 : decode cX16_init 318 = .ok (.bipush 43, 2) := dk_get daX16_init_c0 214 (r := (318, .bipush 43, 2)) rfl
theorem dX16_init_320 : decode cX16_init 320 = .ok (.bipush 6, 2) := dk_get daX16_init_c0 215 (r := (320, .bipush 6, 2)) rfl
theorem dX16_init_322 : decode cX16_init 322 = .ok (.iastore, 1) := dk_get daX16_init_c0 216 (r := (322, .iastore, 1)) rfl
theorem dX16_init_323 : decode cX16_init 323 = .ok (.dup, 1) := dk_get daX16_init_c0 217 (r := (323, .dup, 1)) rfl
theorem dX16_init_324 : decode cX16_init 324 = .ok (.bipush 44, 2) := dk_get daX16_init_c0 218 (r := (324, .bipush 44, 2)) rfl
theorem dX16_init_326 : decode cX16_init 326 = .ok (.bipush 13, 2) := dk_get daX16_init_c0 219 (r := (326, .bipush 13, 2)) rfl
theorem dX16_init_328 : decode cX16_init 328 = .ok (.iastore, 1) := dk_get daX16_init_c0 220 (r := (328, .iastore, 1)) rfl
theorem dX16_init_329 : decode cX16_init 329 = .ok (.dup, 1) := dk_get daX16_init_c0 221 (r := (329, .dup, 1)) rfl
theorem dX16_init_330 : decode cX16_init 330 = .ok (.bipush 45, 2) := dk_get daX16_init_c0 222 (r := (330, .bipush 45, 2)) rfl
theorem dX16_init_332 : decode cX16_init 332 = .ok (.bipush 11, 2) := dk_get daX16_init_c0 223 (r := (332, .bipush 11, 2)) rfl
theorem dX16_init_334 : decode cX16_init 334 = .ok (.iastore, 1) := dk_get daX16_init_c0 224 (r := (334, .iastore, 1)) rfl
theorem dX16_init_335 : decode cX16_init 335 = .ok (.dup, 1) := dk_get daX16_init_c0 225 (r := (335, .dup, 1)) rfl
theorem dX16_init_336 : decode cX16_init 336 = .ok (.bipush 46, 2) := dk_get daX16_init_c0 226 (r := (336, .bipush 46, 2)) rfl
theorem dX16_init_338 : decode cX16_init 338 = .ok (.iconst 5, 1) := dk_get daX16_init_c0 227 (r := (338, .iconst 5, 1)) rfl
theorem dX16_init_339 : decode cX16_init 339 = .ok (.iastore, 1) := dk_get daX16_init_c0 228 (r := (339, .iastore, 1)) rfl
theorem dX16_init_340 : decode cX16_init 340 = .ok (.dup, 1) := dk_get daX16_init_c0 229 (r := (340, .dup, 1)) rfl
theorem dX16_init_341 : decode cX16_init 341 = .ok (.bipush 47, 2) := dk_get daX16_init_c0 230 (r := (341, .bipush 47, 2)) rfl
theorem dX16_init_343 : decode cX16_init 343 = .ok (.bipush 12, 2) := dk_get daX16_init_c0 231 (r := (343, .bipush 12, 2)) rfl
theorem dX16_init_345 : decode cX16_init 345 = .ok (.iastore, 1) := dk_get daX16_init_c0 232 (r := (345, .iastore, 1)) rfl
theorem dX16_init_346 : decode cX16_init 346 = .ok (.dup, 1) := dk_get daX16_init_c0 233 (r := (346, .dup, 1)) rfl
theorem dX16_init_347 : decode cX16_init 347 = .ok (.bipush 48, 2) := dk_get daX16_init_c0 234 (r := (347, .bipush 48, 2)) rfl
theorem dX16_init_349 : decode cX16_init 349 = .ok (.iconst 1, 1) := dk_get daX16_init_c0 235 (r := (349, .iconst 1, 1)) rfl
theorem dX16_init_350 : decode cX16_init 350 = .ok (.iastore, 1) := dk_get daX16_init_c0 236 (r := (350, .iastore, 1)) rfl
theorem dX16_init_351 : decode cX16_init 351 = .ok (.dup, 1) := dk_get daX16_init_c0 237 (r := (351, .dup, 1)) rfl
theorem dX16_init_352 : decode cX16_init 352 = .ok (.bipush 49, 2) := dk_get daX16_init_c0 238 (r := (352, .bipush 49, 2)) rfl
theorem dX16_init_354 : decode cX16_init 354 = .ok (.bipush 9, 2) := dk_get daX16_init_c0 239 (r := (354, .bipush 9, 2)) rfl
theorem dX16_init_356 : decode cX16_init 356 = .ok (.iastore, 1) := dk_get daX16_init_c0 240 (r := (356, .iastore, 1)) rfl
theorem dX16_init_357 : decode cX16_init 357 = .ok (.dup, 1) := dk_get daX16_init_c0 241 (r := (357, .dup, 1)) rfl
theorem dX16_init_358 : decode cX16_init 358 = .ok (.bipush 50, 2) := dk_get daX16_init_c0 242 (r := (358, .bipush 50, 2)) rfl
theorem dX16_init_360 : decode cX16_init 360 = .ok (.bipush 11, 2) := dk_get daX16_init_c0 243 (r := (360, .bipush 11, 2)) rfl
theorem dX16_init_362 : decode cX16_init 362 = .ok (.iastore, 1) := dk_get daX16_init_c0 244 (r := (362, .iastore, 1)) rfl
theorem dX16_init_363 : decode cX16_init 363 = .ok (.dup, 1) := dk_get daX16_init_c0 245 (r := (363, .dup, 1)) rfl
theorem dX16_init_364 : decode cX16_init 364 = .ok (.bipush 51, 2) := dk_get daX16_init_c0 246 (r := (364, .bipush 51, 2)) rfl
theorem dX16_init_366 : decode cX16_init 366 = .ok (.bipush 10, 2) := dk_get daX16_init_c0 247 (r := (366, .bipush 10, 2)) rfl
theorem dX16_init_368 : decode cX16_init 368 = .ok (.iastore, 1) := dk_get daX16_init_c0 248 (r := (368, .iastore, 1)) rfl
theorem dX16_init_369 : decode cX16_init 369 = .ok (.dup, 1) := dk_get daX16_init_c0 249 (r := (369, .dup, 1)) rfl
theorem dX16_init_370 : decode cX16_init 370 = .ok (.bipush 52, 2) := dk_get daX16_init_c0 250 (r := (370, .bipush 52, 2)) rfl
theorem dX16_init_372 : decode cX16_init 372 = .ok (.iconst 0, 1) := dk_get daX16_init_c0 251 (r := (372, .iconst 0, 1)) rfl
theorem dX16_init_373 : decode cX16_init 373 = .ok (.iastore, 1) := dk_get daX16_init_c0 252 (r := (373, .iastore, 1)) rfl
theorem dX16_init_374 : decode cX16_init 374 = .ok (.dup, 1) := dk_get daX16_init_c0 253 (r := (374, .dup, 1)) rfl
theorem dX16_init_375 : decode cX16_init 375 = .ok (.bipush 53, 2) := dk_get daX16_init_c0 254 (r := (375, .bipush 53, 2)) rfl
theorem dX16_init_377 : decode cX16_init 377 = .ok (.bipush 8, 2) := dk_get daX16_init_c0 255 (r := (377, .bipush 8, 2)) rfl
theorem dX16_init_379 : decode cX16_init 379 = .ok (.iastore, 1) := dk_get daX16_init_c0 256 (r := (379, .iastore, 1)) rfl
theorem dX16_init_380 : decode cX16_init 380 = .ok (.dup, 1) := dk_get daX16_init_c0 257 (r := (380, .dup, 1)) rfl
theorem dX16_init_381 : decode cX16_init 381 = .ok (.bipush 54, 2) := dk_get daX16_init_c0 258 (r := (381, .bipush 54, 2)) rfl
theorem dX16_init_383 : decode cX16_init 383 = .ok (.bipush 12, 2) := dk_get daX16_init_c0 259 (r := (383, .bipush 12, 2)) rfl
theorem dX16_init_385 : decode cX16_init 385 = .ok (.iastore, 1) := dk_get daX16_init_c0 260 (r := (385, .iastore, 1)) rfl
theorem dX16_init_386 : decode cX16_init 386 = .ok (.dup, 1) := dk_get daX16_init_c0 261 (r := (386, .dup, 1)) rfl
theorem dX16_init_387 : decode cX16_init 387 = .ok (.bipush 55, 2) := dk_get daX16_init_c0 262 (r := (387, .bipush 55, 2)) rfl
theorem dX16_init_389 : decode cX16_init 389 = .ok (.iconst 4, 1) := dk_get daX16_init_c0 263 (r := (389, .iconst 4, 1)) rfl
theorem dX16_init_390 : decode cX16_init 390 = .ok (.iastore, 1) := dk_get daX16_init_c0 264 (r := (390, .iastore, 1)) rfl
theorem dX16_init_391 : decode cX16_init 391 = .ok (.dup, 1) := dk_get daX16_init_c0 265 (r := (391, .dup, 1)) rfl
theorem dX16_init_392 : decode cX16_init 392 = .ok (.bipush 56, 2) := dk_get daX16_init_c0 266 (r := (392, .bipush 56, 2)) rfl
theorem dX16_init_394 : decode cX16_init 394 = .ok (.bipush 13, 2) := dk_get daX16_init_c0 267 (r := (394, .bipush 13, 2)) rfl
theorem dX16_init_396 : decode cX16_init 396 = .ok (.iastore, 1) := dk_get daX16_init_c0 268 (r := (396, .iastore, 1)) rfl
theorem dX16_init_397 : decode cX16_init 397 = .ok (.dup, 1) := dk_get daX16_init_c0 269 (r := (397, .dup, 1)) rfl
theorem dX16_init_398 : decode cX16_init 398 = .ok (.bipush 57, 2) := dk_get daX16_init_c0 270 (r := (398, .bipush 57, 2)) rfl
theorem dX16_init_400 : decode cX16_init 400 = .ok (.iconst 3, 1) := dk_get daX16_init_c0 271 (r := (400, .iconst 3, 1)) rfl
theorem dX16_init_401 : decode cX16_init 401 = .ok (.iastore, 1) := dk_get daX16_init_c0 272 (r := (401, .iastore, 1)) rfl
theorem dX16_init_402 : decode cX16_init 402 = .ok (.dup, 1) := dk_get daX16_init_c0 273 (r := (402, .dup, 1)) rfl
theorem dX16_init_403 : decode cX16_init 403 = .ok (.bipush 58, 2) := dk_get daX16_init_c0 274 (r := (403, .bipush 58, 2)) rfl
theorem dX16_init_405 : decode cX16_init 405 = .ok (.bipush 7, 2) := dk_get daX16_init_c0 275 (r := (405, .bipush 7, 2)) rfl
theorem dX16_init_407 : decode cX16_init 407 = .ok (.iastore, 1) := dk_get daX16_init_c0 276 (r := (407, .iastore, 1)) rfl
theorem dX16_init_408 : decode cX16_init 408 = .ok (.dup, 1) := dk_get daX16_init_c0 277 (r := (408, .dup, 1)) rfl
theorem dX16_init_409 : decode cX16_init 409 = .ok (.bipush 59, 2) := dk_get daX16_init_c0 278 (r := (409, .bipush 59, 2)) rfl
theorem dX16_init_411 : decode cX16_init 411 = .ok (.bipush 15, 2) := dk_get daX16_init_c0 279 (r := (411, .bipush 15, 2)) rfl
theorem dX16_init_413 : decode cX16_init 413 = .ok (.iastore, 1) := dk_get daX16_init_c0 280 (r := (413, .iastore, 1)) rfl
theorem dX16_init_414 : decode cX16_init 414 = .ok (.dup, 1) := dk_get daX16_init_c0 281 (r := (414, .dup, 1)) rfl
theorem dX16_init_415 : decode cX16_init 415 = .ok (.bipush 60, 2) := dk_get daX16_init_c0 282 (r := (415, .bipush 60, 2)) rfl
theorem dX16_init_417 : decode cX16_init 417 = .ok (.bipush 14, 2) := dk_get daX16_init_c0 283 (r := (417, .bipush 14, 2)) rfl
theorem dX16_init_419 : decode cX16_init 419 = .ok (.iastore, 1) := dk_get daX16_init_c0 284 (r := (419, .iastore, 1)) rfl
theorem dX16_init_420 : decode cX16_init 420 = .ok (.dup, 1) := dk_get daX16_init_c0 285 (r := (420, .dup, 1)) rfl
theorem dX16_init_421 : decode cX16_init 421 = .ok (.bipush 61, 2) := dk_get daX16_init_c0 286 (r := (421, .bipush 61, 2)) rfl
theorem dX16_init_423 : decode cX16_init 423 = .ok (.iconst 5, 1) := dk_get daX16_init_c0 287 (r := (423, .iconst 5, 1)) rfl
theorem dX16_init_424 : decode cX16_init 424 = .ok (.iastore, 1) := dk_get daX16_init_c0 288 (r := (424, .iastore, 1)) rfl
theorem dX16_init_425 : decode cX16_init 425 = .ok (.dup, 1) := dk_get daX16_init_c0 289 (r := (425, .dup, 1)) rfl
theorem dX16_init_426 : decode cX16_init 426 = .ok (.bipush 62, 2) := dk_get daX16_init_c0 290 (r := (426, .bipush 62, 2)) rfl
theorem dX16_init_428 : decode cX16_init 428 = .ok (.bipush 6, 2) := dk_get daX16_init_c0 291 (r := (428, .bipush 6, 2)) rfl
theorem dX16_init_430 : decode cX16_init 430 = .ok (.iastore, 1) := dk_get daX16_init_c0 292 (r := (430, .iastore, 1)) rfl
theorem dX16_init_431 : decode cX16_init 431 = .ok (.dup, 1) := dk_get daX16_init_c0 293 (r := (431, .dup, 1)) rfl
theorem dX16_init_432 : decode cX16_init 432 = .ok (.bipush 63, 2) := dk_get daX16_init_c0 294 (r := (432, .bipush 63, 2)) rfl
theorem dX16_init_434 : decode cX16_init 434 = .ok (.iconst 2, 1) := dk_get daX16_init_c0 295 (r := (434, .iconst 2, 1)) rfl
theorem dX16_init_435 : decode cX16_init 435 = .ok (.iastore, 1) := dk_get daX16_init_c0 296 (r := (435, .iastore, 1)) rfl
theorem dX16_init_436 : decode cX16_init 436 = .ok (.dup, 1) := dk_get daX16_init_c0 297 (r := (436, .dup, 1)) rfl
theorem dX16_init_437 : decode cX16_init 437 = .ok (.bipush 64, 2) := dk_get daX16_init_c0 298 (r := (437, .bipush 64, 2)) rfl
theorem dX16_init_439 : decode cX16_init 439 = .ok (.iconst 4, 1) := dk_get daX16_init_c0 299 (r := (439, .iconst 4, 1)) rfl
def drX16_init_c1 : List (Nat × Instr × Nat) := [(440, .iastore, 1), (441, .dup, 1), (442, .bipush 65, 2), (444, .iconst 0, 1), (445, .iastore, 1), (446, .dup, 1), (447, .bipush 66, 2), (449, .iconst 5, 1), (450, .iastore, 1), (451, .dup, 1), (452, .bipush 67, 2), (454, .bipush 9, 2), (456, .iastore, 1), (457, .dup, 1), (458, .bipush 68, 2), (460, .bipush 7, 2), (462, .iastore, 1), (463, .dup, 1), (464, .bipush 69, 2), (466, .bipush 12, 2), (468, .iastore, 1), (469, .dup, 1), (470, .bipush 70, 2), (472, .iconst 2, 1), (473, .iastore, 1), (474, .dup, 1), (475, .bipush 71, 2), (477, .bipush 10, 2), (479, .iastore, 1), (480, .dup, 1), (481, .bipush 72, 2), (483, .bipush 14, 2), (485, .iastore, 1), (486, .dup, 1), (487, .bipush 73, 2), (489, .iconst 1, 1), (490, .iastore, 1), (491, .dup, 1), (492, .bipush 74, 2), (494, .iconst 3, 1), (495, .iastore, 1), (496, .dup, 1), (497, .bipush 75, 2), (499, .bipush 8, 2), (501, .iastore, 1), (502, .dup, 1), (503, .bipush 76, 2), (505, .bipush 11, 2), (507, .iastore, 1), (508, .dup, 1), (509, .bipush 77, 2), (511, .bipush 6, 2), (513, .iastore, 1), (514, .dup, 1), (515, .bipush 78, 2), (517, .bipush 15, 2), (519, .iastore, 1), (520, .dup, 1), (521, .bipush 79, 2), (523, .bipush 13, 2), (525, .iastore, 1), (526, .dup, 1), (527, .bipush 80, 2), (529, .iconst 5, 1), (530, .iastore, 1), (531, .dup, 1), (532, .bipush 81, 2), (534, .bipush 14, 2), (536, .iastore, 1), (537, .dup, 1), (538, .bipush 82, 2), (540, .bipush 7, 2), (542, .iastore, 1), (543, .dup, 1), (544, .bipush 83, 2), (546, .iconst 0, 1), (547, .iastore, 1), (548, .dup, 1), (549, .bipush 84, 2), (551, .bipush 9, 2), (553, .iastore, 1), (554, .dup, 1), (555, .bipush 85, 2), (557, .iconst 2, 1), (558, .iastore, 1), (559, .dup, 1), (560, .bipush 86, 2), (562, .bipush 11, 2), (564, .iastore, 1), (565, .dup, 1), (566, .bipush 87, 2), (568, .iconst 4, 1), (569, .iastore, 1), (570, .dup, 1), (571, .bipush 88, 2), (573, .bipush 13, 2), (575, .iastore, 1), (576, .dup, 1), (577, .bipush 89, 2), (579, .bipush 6, 2), (581, .iastore, 1), (582, .dup, 1), (583, .bipush 90, 2), (585, .bipush 15, 2), (587, .iastore, 1), (588, .dup, 1), (589, .bipush 91, 2), (591, .bipush 8, 2), (593, .iastore, 1), (594, .dup, 1), (595, .bipush 92, 2), (597, .iconst 1, 1), (598, .iastore, 1), (599, .dup, 1), (600, .bipush 93, 2), (602, .bipush 10, 2), (604, .iastore, 1), (605, .dup, 1), (606, .bipush 94, 2), (608, .iconst 3, 1), (609, .iastore, 1), (610, .dup, 1), (611, .bipush 95, 2), (613, .bipush 12, 2), (615, .iastore, 1), (616, .dup, 1), (617, .bipush 96, 2), (619, .bipush 6, 2), (621, .iastore, 1), (622, .dup, 1), (623, .bipush 97, 2), (625, .bipush 11, 2), (627, .iastore, 1), (628, .dup, 1), (629, .bipush 98, 2), (631, .iconst 3, 1), (632, .iastore, 1), (633, .dup, 1), (634, .bipush 99, 2), (636, .bipush 7, 2), (638, .iastore, 1), (639, .dup, 1), (640, .bipush 100, 2), (642, .iconst 0, 1), (643, .iastore, 1), (644, .dup, 1), (645, .bipush 101, 2), (647, .bipush 13, 2), (649, .iastore, 1), (650, .dup, 1), (651, .bipush 102, 2), (653, .iconst 5, 1), (654, .iastore, 1), (655, .dup, 1), (656, .bipush 103, 2), (658, .bipush 10, 2), (660, .iastore, 1), (661, .dup, 1), (662, .bipush 104, 2), (664, .bipush 14, 2), (666, .iastore, 1), (667, .dup, 1), (668, .bipush 105, 2), (670, .bipush 15, 2), (672, .iastore, 1), (673, .dup, 1), (674, .bipush 106, 2), (676, .bipush 8, 2), (678, .iastore, 1), (679, .dup, 1), (680, .bipush 107, 2), (682, .bipush 12, 2), (684, .iastore, 1), (685, .dup, 1), (686, .bipush 108, 2), (688, .iconst 4, 1), (689, .iastore, 1), (690, .dup, 1), (691, .bipush 109, 2), (693, .bipush 9, 2), (695, .iastore, 1), (696, .dup, 1), (697, .bipush 110, 2), (699, .iconst 1, 1), (700, .iastore, 1), (701, .dup, 1), (702, .bipush 111, 2), (704, .iconst 2, 1), (705, .iastore, 1), (706, .dup, 1), (707, .bipush 112, 2), (709, .bipush 15, 2), (711, .iastore, 1), (712, .dup, 1), (713, .bipush 113, 2), (715, .iconst 5, 1), (716, .iastore, 1), (717, .dup, 1), (718, .bipush 114, 2), (720, .iconst 1, 1), (721, .iastore, 1), (722, .dup, 1), (723, .bipush 115, 2), (725, .iconst 3, 1), (726, .iastore, 1), (727, .dup, 1), (728, .bipush 116, 2), (730, .bipush 7, 2), (732, .iastore, 1), (733, .dup, 1), (734, .bipush 117, 2), (736, .bipush 14, 2), (738, .iastore, 1), (739, .dup, 1), (740, .bipush 118, 2), (742, .bipush 6, 2), (744, .iastore, 1), (745, .dup, 1), (746, .bipush 119, 2), (748, .bipush 9, 2), (750, .iastore, 1), (751, .dup, 1), (752, .bipush 120, 2), (754, .bipush 11, 2), (756, .iastore, 1), (757, .dup, 1), (758, .bipush 121, 2), (760, .bipush 8, 2), (762, .iastore, 1), (763, .dup, 1), (764, .bipush 122, 2), (766, .bipush 12, 2), (768, .iastore, 1), (769, .dup, 1), (770, .bipush 123, 2), (772, .iconst 2, 1), (773, .iastore, 1), (774, .dup, 1), (775, .bipush 124, 2), (777, .bipush 10, 2), (779, .iastore, 1), (780, .dup, 1), (781, .bipush 125, 2), (783, .iconst 0, 1), (784, .iastore, 1), (785, .dup, 1), (786, .bipush 126, 2), (788, .iconst 4, 1), (789, .iastore, 1), (790, .dup, 1), (791, .bipush 127, 2), (793, .bipush 13, 2), (795, .iastore, 1), (796, .dup, 1), (797, .sipush 128, 3), (800, .bipush 8, 2), (802, .iastore, 1), (803, .dup, 1), (804, .sipush 129, 3), (807, .bipush 6, 2), (809, .iastore, 1), (810, .dup, 1), (811, .sipush 130, 3), (814, .iconst 4, 1), (815, .iastore, 1), (816, .dup, 1), (817, .sipush 131, 3), (820, .iconst 1, 1), (821, .iastore, 1), (822, .dup, 1), (823, .sipush 132, 3), (826, .iconst 3, 1), (827, .iastore, 1), (828, .dup, 1), (829, .sipush 133, 3), (832, .bipush 11, 2), (834, .iastore, 1), (835, .dup, 1), (836, .sipush 134, 3), (839, .bipush 15, 2), (841, .iastore, 1), (842, .dup, 1), (843, .sipush 135, 3), (846, .iconst 0, 1), (847, .iastore, 1), (848, .dup, 1), (849, .sipush 136, 3), (852, .iconst 5, 1), (853, .iastore, 1), (854, .dup, 1), (855, .sipush 137, 3), (858, .bipush 12, 2), (860, .iastore, 1), (861, .dup, 1), (862, .sipush 138, 3), (865, .iconst 2, 1), (866, .iastore, 1), (867, .dup, 1), (868, .sipush 139, 3), (871, .bipush 13, 2)]
set_option maxRecDepth 100000 in
theorem daX16_init_c1 : dk_all cX16_init drX16_init_c1 = true := by decide +kernel
theorem dX16_init_440 : decode cX16_init 440 = .ok (.iastore, 1) := dk_get daX16_init_c1 0 (r := (440, .iastore, 1)) rfl
theorem dX16_init_441 : decode cX16_init 441 = .ok (.dup, 1) := dk_get daX16_init_c1 1 (r := (441, .dup, 1)) rfl
theorem dX16_init_442 : decode cX16_init 442 = .ok (.bipush 65, 2) := dk_get daX16_init_c1 2 (r := (442, .bipush 65, 2)) rfl
theorem dX16_init_444 : decode cX16_init 444 = .ok (.iconst 0, 1) := dk_get daX16_init_c1 3 (r := (444, .iconst 0, 1)) rfl
theorem dX16_init_445 : decode cX16_init 445 = .ok (.iastore, 1) := dk_get daX16_init_c1 4 (r := (445, .iastore, 1)) rfl
theorem dX16_init_446 : decode cX16_init 446 = .ok (.dup, 1) := dk_get daX16_init_c1 5 (r := (446, .dup, 1)) rfl
theorem dX16_init_447 : decode cX16_init 447 = .ok (.bipush 66, 2) := dk_get daX16_init_c1 6 (r := (447, .bipush 66, 2)) rfl
theorem dX16_init_449 : decode cX16_init 449 = .ok (.iconst 5, 1) := dk_get daX16_init_c1 7 (r := (449, .iconst 5, 1)) rfl
theorem dX16_init_450 : decode cX16_init 450 = .ok (.iastore, 1) := dk_get daX16_init_c1 8 (r := (450, .iastore, 1)) rfl
theorem dX16_init_451 : decode cX16_init 451 = .ok (.dup, 1) := dk_get daX16_init_c1 9 (r := (451, .dup, 1)) rfl
theorem dX16_init_452 : decode cX16_init 452 = .ok (.bipush 67, 2) := dk_get daX16_init_c1 10 (r := (452, .bipush 67, 2)) rfl
theorem dX16_init_454 : decode cX16_init 454 = .ok (.bipush 9, 2) := dk_get daX16_init_c1 11 (r := (454, .bipush 9, 2)) rfl
theorem dX16_init_456 : decode cX16_init 456 = .ok (.iastore, 1) := dk_get daX16_init_c1 12 (r := (456, .iastore, 1)) rfl
theorem dX16_init_457 : decode cX16_init 457 = .ok (.dup, 1) := dk_get daX16_init_c1 13 (r := (457, .dup, 1)) rfl
theorem dX16_init_458 : decode cX16_init 458 = .ok (.bipush 68, 2) := dk_get daX16_init_c1 14 (r := (458, .bipush 68, 2)) rfl
theorem dX16_init_460 : decode cX16_init 460 = .ok (.bipush 7, 2) := dk_get daX16_init_c1 15 (r := (460, .bipush 7, 2)) rfl
theorem dX16_init_462 : decode cX16_init 462 = .ok (.iastore, 1) := dk_get daX16_init_c1 16 (r := (462, .iastore, 1)) rfl
theorem dX16_init_463 : decode cX16_init 463 = .ok (.dup, 1) := dk_get daX16_init_c1 17 (r := (463, .dup, 1)) rfl
theorem dX16_init_464 : decode cX16_init 464 = .ok (.bipush 69, 2) := dk_get daX16_init_c1 18 (r := (464, .bipush 69, 2)) rfl
theorem dX16_init_466 : decode cX16_init 466 = .ok (.bipush 12, 2) := dk_get daX16_init_c1 19 (r := (466, .bipush 12, 2)) rfl
theorem dX16_init_468 : decode cX16_init 468 = .ok (.iastore, 1) := dk_get daX16_init_c1 20 (r := (468, .iastore, 1)) rfl
theorem dX16_init_469 : decode cX16_init 469 = .ok (.dup, 1) := dk_get daX16_init_c1 21 (r := (469, .dup, 1)) rfl
theorem dX16_init_470 : decode cX16_init 470 = .ok (.bipush 70, 2) := dk_get daX16_init_c1 22 (r := (470, .bipush 70, 2)) rfl
theorem dX16_init_472 : decode cX16_init 472 = .ok (.iconst 2, 1) := dk_get daX16_init_c1 23 (r := (472, .iconst 2, 1)) rfl
theorem dX16_init_473 : decode cX16_init 473 = .ok (.iastore, 1) := dk_get daX16_init_c1 24 (r := (473, .iastore, 1)) rfl
theorem dX16_init_474 : decode cX16_init 474 = .ok (.dup, 1) := dk_get daX16_init_c1 25 (r := (474, .dup, 1)) rfl
theorem dX16_init_475 : decode cX16_init 475 = .ok (.bipush 71, 2) := dk_get daX16_init_c1 26 (r := (475, .bipush 71, 2)) rfl
theorem dX16_init_477 : decode cX16_init 477 = .ok (.bipush 10, 2) := dk_get daX16_init_c1 27 (r := (477, .bipush 10, 2)) rfl
theorem dX16_init_479 : decode cX16_init 479 = .ok (.iastore, 1) := dk_get daX16_init_c1 28 (r := (479, .iastore, 1)) rfl
theorem dX16_init_480 : decode cX16_init 480 = .ok (.dup, 1) := dk_get daX16_init_c1 29 (r := (480, .dup, 1)) rfl
theorem dX16_init_481 : decode cX16_init 481 = .ok (.bipush 72, 2) := dk_get daX16_init_c1 30 (r := (481, .bipush 72, 2)) rfl
theorem dX16_init_483 : decode cX16_init 483 = .ok (.bipush 14, 2) := dk_get daX16_init_c1 31 (r := (483, .bipush 14, 2)) rfl
theorem dX16_init_485 : decode cX16_init 485 = .ok (.iastore, 1) := dk_get daX16_init_c1 32 (r := (485, .iastore, 1)) rfl
theorem dX16_init_486 : decode cX16_init 486 = .ok (.dup, 1) := dk_get daX16_init_c1 33 (r := (486, .dup, 1)) rfl
theorem dX16_init_487 : decode cX16_init 487 = .ok (.bipush 73, 2) := dk_get daX16_init_c1 34 (r := (487, .bipush 73, 2)) rfl
theorem dX16_init_489 : decode cX16_init 489 = .ok (.iconst 1, 1) := dk_get daX16_init_c1 35 (r := (489, .iconst 1, 1)) rfl
theorem dX16_init_490 : decode cX16_init 490 = .ok (.iastore, 1) := dk_get daX16_init_c1 36 (r := (490, .iastore, 1)) rfl
theorem dX16_init_491 : decode cX16_init 491 = .ok (.dup, 1) := dk_get daX16_init_c1 37 (r := (491, .dup, 1)) rfl
theorem dX16_init_492 : decode cX16_init 492 = .ok (.bipush 74, 2) := dk_get daX16_init_c1 38 (r := (492, .bipush 74, 2)) rfl
theorem dX16_init_494 : decode cX16_init 494 = .ok (.iconst 3, 1) := dk_get daX16_init_c1 39 (r := (494, .iconst 3, 1)) rfl
theorem dX16_init_495 : decode cX16_init 495 = .ok (.iastore, 1) := dk_get daX16_init_c1 40 (r := (495, .iastore, 1)) rfl
theorem dX16_init_496 : decode cX16_init 496 = .ok (.dup, 1) := dk_get daX16_init_c1 41 (r := (496, .dup, 1)) rfl
theorem dX16_init_497 : decode cX16_init 497 = .ok (.bipush 75, 2) := dk_get daX16_init_c1 42 (r := (497, .bipush 75, 2)) rfl
theorem dX16_init_499 : decode cX16_init 499 = .ok (.bipush 8, 2) := dk_get daX16_init_c1 43 (r := (499, .bipush 8, 2)) rfl
theorem dX16_init_501 : decode cX16_init 501 = .ok (.iastore, 1) := dk_get daX16_init_c1 44 (r := (501, .iastore, 1)) rfl
theorem dX16_init_502 : decode cX16_init 502 = .ok (.dup, 1) := dk_get daX16_init_c1 45 (r := (502, .dup, 1)) rfl
theorem dX16_init_503 : decode cX16_init 503 = .ok (.bipush 76, 2) := dk_get daX16_init_c1 46 (r := (503, .bipush 76, 2)) rfl
theorem dX16_init_505 : decode cX16_init 505 = .ok (.bipush 11, 2) := dk_get daX16_init_c1 47 (r := (505, .bipush 11, 2)) rfl
theorem dX16_init_507 : decode cX16_init 507 = .ok (.iastore, 1) := dk_get daX16_init_c1 48 (r := (507, .iastore, 1)) rfl
theorem dX16_init_508 : decode cX16_init 508 = .ok (.dup, 1) := dk_get daX16_init_c1 49 (r := (508, .dup, 1)) rfl
theorem dX16_init_509 : decode cX16_init 509 = .ok (.bipush 77, 2) := dk_get daX16_init_c1 50 (r := (509, .bipush 77, 2)) rfl
theorem dX16_init_511 : decode cX16_init 511 = .ok (.bipush 6, 2) := dk_get daX16_init_c1 51 (r := (511, .bipush 6, 2)) rfl
theorem dX16_init_513 : decode cX16_init 513 = .ok (.iastore, 1) := dk_get daX16_init_c1 52 (r := (513, .iastore, 1)) rfl
theorem dX16_init_514 : decode cX16_init 514 = .ok (.dup, 1) := dk_get daX16_init_c1 53 (r := (514, .dup, 1)) rfl
theorem dX16_init_515 : decode cX16_init 515 = .ok (.bipush 78, 2) := dk_get daX16_init_c1 54 (r := (515, .bipush 78, 2)) rfl
theorem dX16_init_517 : decode cX16_init 517 = .ok (.bipush 15, 2) := dk_get daX16_init_c1 55 (r := (517, .bipush 15, 2)) rfl
theorem dX16_init_519 : decode cX16_init 519 = .ok (.iastore, 1) := dk_get daX16_init_c1 56 (r := (519, .iastore, 1)) rfl
theorem dX16_init_520 : decode cX16_init 520 = .ok (.dup, 1) := dk_get daX16_init_c1 57 (r := (520, .dup, 1)) rfl
theorem dX16_init_521 : decode cX16_init 521 = .ok (.bipush 79, 2) := dk_get daX16_init_c1 58 (r := (521, .bipush 79, 2)) rfl
theorem dX16_init_523 : decode cX16_init 523 = .ok (.bipush 13, 2) := dk_get daX16_init_c1 59 (r := (523, .bipush 13, 2)) rfl
theorem dX16_init_525 : decode cX16_init 525 = .ok (.iastore, 1) := dk_get daX16_init_c1 60 (r := (525, .iastore, 1)) rfl
theorem dX16_init_526 : decode cX16_init 526 = .ok (.dup, 1) := dk_get daX16_init_c1 61 (r := (526, .dup, 1)) rfl
theorem dX16_init_527 : decode cX16_init 527 = .ok (.bipush 80, 2) := dk_get daX16_init_c1 62 (r := (527, .bipush 80, 2)) rfl
theorem dX16_init_529 : decode cX16_init 529 = .ok (.iconst 5, 1) := dk_get daX16_init_c1 63 (r := (529, .iconst 5, 1)) rfl
theorem dX16_init_530 : decode cX16_init 530 = .ok (.iastore, 1) := dk_get daX16_init_c1 64 (r := (530, .iastore, 1)) rfl
theorem dX16_init_531 : decode cX16_init 531 = .ok (.dup, 1) := dk_get daX16_init_c1 65 (r := (531, .dup, 1)) rfl
theorem dX16_init_532 : decode cX16_init 532 = .ok (.bipush 81, 2) := dk_get daX16_init_c1 66 (r := (532, .bipush 81, 2)) rfl
theorem dX16_init_534 : decode cX16_init 534 = .ok (.bipush 14, 2) := dk_get daX16_init_c1 67 (r := (534, .bipush 14, 2)) rfl
theorem dX16_init_536 : decode cX16_init 536 = .ok (.iastore, 1) := dk_get daX16_init_c1 68 (r := (536, .iastore, 1)) rfl
theorem dX16_init_537 : decode cX16_init 537 = .ok (.dup, 1) := dk_get daX16_init_c1 69 (r := (537, .dup, 1)) rfl
theorem dX16_init_538 : decode cX16_init 538 = .ok (.bipush 82, 2) := dk_get daX16_init_c1 70 (r := (538, .bipush 82, 2)) rfl
theorem dX16_init_540 : decode cX16_init 540 = .ok (.bipush 7, 2) := dk_get daX16_init_c1 71 (r := (540, .bipush 7, 2)) rfl
theorem dX16_init_542 : decode cX16_init 542 = .ok (.iastore, 1) := dk_get daX16_init_c1 72 (r := (542, .iastore, 1)) rfl
theorem dX16_init_543 : decode cX16_init 543 = .ok (.dup, 1) := dk_get daX16_init_c1 73 (r := (543, .dup, 1)) rfl
theorem dX16_init_544 : decode cX16_init 544 = .ok (.bipush 83, 2) := dk_get daX16_init_c1 74 (r := (544, .bipush 83, 2)) rfl
theorem dX16_init_546 : decode cX16_init 546 = .ok (.iconst 0, 1) := dk_get daX16_init_c1 75 (r := (546, .iconst 0, 1)) rfl
theorem dX16_init_547 : decode cX16_init 547 = .ok (.iastore, 1) := dk_get daX16_init_c1 76 (r := (547, .iastore, 1)) rfl
theorem dX16_init_548 : decode cX16_init 548 = .ok (.dup, 1) := dk_get daX16_init_c1 77 (r := (548, .dup, 1)) rfl
theorem dX16_init_549 : decode cX16_init 549 = .ok (.bipush 84, 2) := dk_get daX16_init_c1 78 (r := (549, .bipush 84, 2)) rfl
theorem dX16_init_551 : decode cX16_init 551 = .ok (.bipush 9, 2) := dk_get daX16_init_c1 79 (r := (551, .bipush 9, 2)) rfl
theorem dX16_init_553 : decode cX16_init 553 = .ok (.iastore, 1) := dk_get daX16_init_c1 80 (r := (553, .iastore, 1)) rfl
theorem dX16_init_554 : decode cX16_init 554 = .ok (.dup, 1) := dk_get daX16_init_c1 81 (r := (554, .dup, 1)) rfl
theorem dX16_init_555 : decode cX16_init 555 = .ok (.bipush 85, 2) := dk_get daX16_init_c1 82 (r := (555, .bipush 85, 2)) rfl
theorem dX16_init_557 : decode cX16_init 557 = .ok (.iconst 2, 1) := dk_get daX16_init_c1 83 (r := (557, .iconst 2, 1)) rfl
theorem dX16_init_558 : decode cX16_init 558 = .ok (.iastore, 1) := dk_get daX16_init_c1 84 (r := (558, .iastore, 1)) rfl
theorem dX16_init_559 : decode cX16_init 559 = .ok (.dup, 1) := dk_get daX16_init_c1 85 (r := (559, .dup, 1)) rfl
theorem dX16_init_560 : decode cX16_init 560 = .ok (.bipush 86, 2) := dk_get daX16_init_c1 86 (r := (560, .bipush 86, 2)) rfl
theorem dX16_init_562 : decode cX16_init 562 = .ok (.bipush 11, 2) := dk_get daX16_init_c1 87 (r := (562, .bipush 11, 2)) rfl
theorem dX16_init_564 : decode cX16_init 564 = .ok (.iastore, 1) := dk_get daX16_init_c1 88 (r := (564, .iastore, 1)) rfl
theorem dX16_init_565 : decode cX16_init 565 = .ok (.dup, 1) := dk_get daX16_init_c1 89 (r := (565, .dup, 1)) rfl
theorem dX16_init_566 : decode cX16_init 566 = .ok (.bipush 87, 2) := dk_get daX16_init_c1 90 (r := (566, .bipush 87, 2)) rfl
theorem dX16_init_568 : decode cX16_init 568 = .ok (.iconst 4, 1) := dk_get daX16_init_c1 91 (r := (568, .iconst 4, 1)) rfl
theorem dX16_init_569 : decode cX16_init 569 = .ok (.iastore, 1) := dk_get daX16_init_c1 92 (r := (569, .iastore, 1)) rfl
theorem dX16_init_570 : decode cX16_init 570 = .ok (.dup, 1) := dk_get daX16_init_c1 93 (r := (570, .dup, 1)) rfl
theorem dX16_init_571 : decode cX16_init 571 = .ok (.bipush 88, 2) := dk_get daX16_init_c1 94 (r := (571, .bipush 88, 2)) rfl
theorem dX16_init_573 : decode cX16_init 573 = .ok (.bipush 13, 2) := dk_get daX16_init_c1 95 (r := (573, .bipush 13, 2)) rfl
theorem dX16_init_575 : decode cX16_init 575 = .ok (.iastore, 1) := dk_get daX16_init_c1 96 (r := (575, .iastore, 1)) rfl
theorem dX16_init_576 : decode cX16_init 576 = .ok (.dup, 1) := dk_get daX16_init_c1 97 (r := (576, .dup, 1)) rfl
theorem dX16_init_577 : decode cX16_init 577 = .ok (.bipush 89, 2) := dk_get daX16_init_c1 98 (r := (577, .bipush 89, 2)) rfl
theorem dX16_init_579 : decode cX16_init 579 = .ok (.bipush 6, 2) := dk_get daX16_init_c1 99 (r := (579, .bipush 6, 2)) rfl
theorem dX16_init_581 : decode cX16_init 581 = .ok (.iastore, 1) := dk_get daX16_init_c1 100 (r := (581, .iastore, 1)) rfl
theorem dX16_init_582 : decode cX16_init 582 = .ok (.dup, 1) := dk_get daX16_init_c1 101 (r := (582, .dup, 1)) rfl
theorem dX16_init_583 : decode cX16_init 583 = .ok (.bipush 90, 2) := dk_get daX16_init_c1 102 (r := (583, .bipush 90, 2)) rfl
theorem dX16_init_585 : decode cX16_init 585 = .ok (.bipush 15, 2) := dk_get daX16_init_c1 103 (r := (585, .bipush 15, 2)) rfl
theorem dX16_init_587 : decode cX16_init 587 = .ok (.iastore, 1) := dk_get daX16_init_c1 104 (r := (587, .iastore, 1)) rfl
theorem dX16_init_588 : decode cX16_init 588 = .ok (.dup, 1) := dk_get daX16_init_c1 105 (r := (588, .dup, 1)) rfl
theorem dX16_init_589 : decode cX16_init 589 = .ok (.bipush 91, 2) := dk_get daX16_init_c1 106 (r := (589, .bipush 91, 2)) rfl
theorem dX16_init_591 : decode cX16_init 591 = .ok (.bipush 8, 2) := dk_get daX16_init_c1 107 (r := (591, .bipush 8, 2)) rfl
theorem dX16_init_593 : decode cX16_init 593 = .ok (.iastore, 1) := dk_get daX16_init_c1 108 (r := (593, .iastore, 1)) rfl
theorem dX16_init_594 : decode cX16_init 594 = .ok (.dup, 1) := dk_get daX16_init_c1 109 (r := (594, .dup, 1)) rfl
theorem dX16_init_595 : decode cX16_init 595 = .ok (.bipush 92, 2) := dk_get daX16_init_c1 110 (r := (595, .bipush 92, 2)) rfl
theorem dX16_init_597 : decode cX16_init 597 = .ok (.iconst 1, 1) := dk_get daX16_init_c1 111 (r := (597, .iconst 1, 1)) rfl
theorem dX16_init_598 : decode cX16_init 598 = .ok (.iastore, 1) := dk_get daX16_init_c1 112 (r := (598, .iastore, 1)) rfl
theorem dX16_init_599 : decode cX16_init 599 = .ok (.dup, 1) := dk_get daX16_init_c1 113 (r := (599, .dup, 1)) rfl
theorem dX16_init_600 : decode cX16_init 600 = .ok (.bipush 93, 2) := dk_get daX16_init_c1 114 (r := (600, .bipush 93, 2)) rfl
theorem dX16_init_602 : decode cX16_init 602 = .ok (.bipush 10, 2) := dk_get daX16_init_c1 115 (r := (602, .bipush 10, 2)) rfl
theorem dX16_init_604 : decode cX16_init 604 = .ok (.iastore, 1) := dk_get daX16_init_c1 116 (r := (604, .iastore, 1)) rfl
theorem dX16_init_605 : decode cX16_init 605 = .ok (.dup, 1) := dk_get daX16_init_c1 117 (r := (605, .dup, 1)) rfl
theorem dX16_init_606 : decode cX16_init 606 = .ok (.bipush 94, 2) := dk_get daX16_init_c1 118 (r := (606, .bipush 94, 2)) rfl
theorem dX16_init_608 : decode cX16_init 608 = .ok (.iconst 3, 1) := dk_get daX16_init_c1 119 (r := (608, .iconst 3, 1)) rfl
theorem dX16_init_609 : decode cX16_init 609 = .ok (.iastore, 1) := dk_get daX16_init_c1 120 (r := (609, .iastore, 1)) rfl
theorem dX16_init_610 : decode cX16_init 610 = .ok (.dup, 1) := dk_get daX16_init_c1 121 (r := (610, .dup, 1)) rfl
theorem dX16_init_611 : decode cX16_init 611 = .ok (.bipush 95, 2) := dk_get daX16_init_c1 122 (r := (611, .bipush 95, 2)) rfl
theorem dX16_init_613 : decode cX16_init 613 = .ok (.bipush 12, 2) := dk_get daX16_init_c1 123 (r := (613, .bipush 12, 2)) rfl
theorem dX16_init_615 : decode cX16_init 615 = .ok (.iastore, 1) := dk_get daX16_init_c1 124 (r := (615, .iastore, 1)) rfl
theorem dX16_init_616 : decode cX16_init 616 = .ok (.dup, 1) := dk_get daX16_init_c1 125 (r := (616, .dup, 1)) rfl
theorem dX16_init_617 : decode cX16_init 617 = .ok (.bipush 96, 2) := dk_get daX16_init_c1 126 (r := (617, .bipush 96, 2)) rfl
theorem dX16_init_619 : decode cX16_init 619 = .ok (.bipush 6, 2) := dk_get daX16_init_c1 127 (r := (619, .bipush 6, 2)) rfl
theorem dX16_init_621 : decode cX16_init 621 = .ok (.iastore, 1) := dk_get daX16_init_c1 128 (r := (621, .iastore, 1)) rfl
theorem dX16_init_622 : decode cX16_init 622 = .ok (.dup, 1) := dk_get daX16_init_c1 129 (r := (622, .dup, 1)) rfl
theorem dX16_init_623 : decode cX16_init 623 = .ok (.bipush 97, 2) := dk_get daX16_init_c1 130 (r := (623, .bipush 97, 2)) rfl
theorem dX16_init_625 : decode cX16_init 625 = .ok (.bipush 11, 2) := dk_get daX16_init_c1 131 (r := (625, .bipush 11, 2)) rfl
theorem dX16_init_627 : decode cX16_init 627 = .ok (.iastore, 1) := dk_get daX16_init_c1 132 (r := (627, .iastore, 1)) rfl
theorem dX16_init_628 : decode cX16_init 628 = .ok (.dup, 1) := dk_get daX16_init_c1 133 (r := (628, .dup, 1)) rfl
theorem dX16_init_629 : decode cX16_init 629 = .ok (.bipush 98, 2) := dk_get daX16_init_c1 134 (r := (629, .bipush 98, 2)) rfl
theorem dX16_init_631 : decode cX16_init 631 = .ok (.iconst 3, 1) := dk_get daX16_init_c1 135 (r := (631, .iconst 3, 1)) rfl
theorem dX16_init_632 : decode cX16_init 632 = .ok (.iastore, 1) := dk_get daX16_init_c1 136 (r := (632, .iastore, 1)) rfl
theorem dX16_init_633 : decode cX16_init 633 = .ok (.dup, 1) := dk_get daX16_init_c1 137 (r := (633, .dup, 1)) rfl
theorem dX16_init_634 : decode cX16_init 634 = .ok (.bipush 99, 2) := dk_get daX16_init_c1 138 (r := (634, .bipush 99, 2)) rfl
theorem dX16_init_636 : decode cX16_init 636 = .ok (.bipush 7, 2) := dk_get daX16_init_c1 139 (r := (636, .bipush 7, 2)) rfl
theorem dX16_init_638 : decode cX16_init 638 = .ok (.iastore, 1) := dk_get daX16_init_c1 140 (r := (638, .iastore, 1)) rfl
theorem dX16_init_639 : decode cX16_init 639 = .ok (.dup, 1) := dk_get daX16_init_c1 141 (r := (639, .dup, 1)) rfl
theorem dX16_init_640 : decode cX16_init 640 = .ok (.bipush 100, 2) := dk_get daX16_init_c1 142 (r := (640, .bipush 100, 2)) rfl
theorem dX16_init_642 : decode cX16_init 642 = .ok (.iconst 0, 1) := dk_get daX16_init_c1 143 (r := (642, .iconst 0, 1)) rfl
theorem dX16_init_643 : decode cX16_init 643 = .ok (.iastore, 1) := dk_get daX16_init_c1 144 (r := (643, .iastore, 1)) rfl
theorem dX16_init_644 : decode cX16_init 644 = .ok (.dup, 1) := dk_get daX16_init_c1 145 (r := (644, .dup, 1)) rfl
theorem dX16_init_645 : decode cX16_init 645 = .ok (.bipush 101, 2) := dk_get daX16_init_c1 146 (r := (645, .bipush 101, 2)) rfl
theorem dX16_init_647 : decode cX16_init 647 = .ok (.bipush 13, 2) := dk_get daX16_init_c1 147 (r := (647, .bipush 13, 2)) rfl
theorem dX16_init_649 : decode cX16_init 649 = .ok (.iastore, 1) := dk_get daX16_init_c1 148 (r := (649, .iastore, 1)) rfl
theorem dX16_init_650 : decode cX16_init 650 = .ok (.dup, 1) := dk_get daX16_init_c1 149 (r := (650, .dup, 1)) rfl
theorem dX16_init_651 : decode cX16_init 651 = .ok (.bipush 102, 2) := dk_get daX16_init_c1 150 (r := (651, .bipush 102, 2)) rfl
theorem dX16_init_653 : decode cX16_init 653 = .ok (.iconst 5, 1) := dk_get daX16_init_c1 151 (r := (653, .iconst 5, 1)) rfl
theorem dX16_init_654 : decode cX16_init 654 = .ok (.iastore, 1) := dk_get daX16_init_c1 152 (r := (654, .iastore, 1)) rfl
theorem dX16_init_655 : decode cX16_init 655 = .ok (.dup, 1) := dk_get daX16_init_c1 153 (r := (655, .dup, 1)) rfl
theorem dX16_init_656 : decode cX16_init 656 = .ok (.bipush 103, 2) := dk_get daX16_init_c1 154 (r := (656, .bipush 103, 2)) rfl
theorem dX16_init_658 : decode cX16_init 658 = .ok (.bipush 10, 2) := dk_get daX16_init_c1 155 (r := (658, .bipush 10, 2)) rfl
theorem dX16_init_660 : decode cX16_init 660 = .ok (.iastore, 1) := dk_get daX16_init_c1 156 (r := (660, .iastore, 1)) rfl
theorem dX16_init_661 : decode cX16_init 661 = .ok (.dup, 1) := dk_get daX16_init_c1 157 (r := (661, .dup, 1)) rfl
theorem dX16_init_662 : decode cX16_init 662 = .ok (.bipush 104, 2) := dk_get daX16_init_c1 158 (r := (662, .bipush 104, 2)) rfl
theorem dX16_init_664 : decode cX16_init 664 = .ok (.bipush 14, 2) := dk_get daX16_init_c1 159 (r := (664, .bipush 14, 2)) rfl
theorem dX16_init_666 : decode cX16_init 666 = .ok (.iastore, 1) := dk_get daX16_init_c1 160 (r := (666, .iastore, 1)) rfl
theorem dX16_init_667 : decode cX16_init 667 = .ok (.dup, 1) := dk_get daX16_init_c1 161 (r := (667, .dup, 1)) rfl
theorem dX16_init_668 : decode cX16_init 668 = .ok (.bipush 105, 2) := dk_get daX16_init_c1 162 (r := (668, .bipush 105, 2)) rfl
theorem dX16_init_670 : decode cX16_init 670 = .ok (.bipush 15, 2) := dk_get daX16_init_c1 163 (r := (670, .bipush 15, 2)) rfl
theorem dX16_init_672 : decode cX16_init 672 = .ok (.iastore, 1) := dk_get daX16_init_c1 164 (r := (672, .iastore, 1)) rfl
theorem dX16_init_673 : decode cX16_init 673 = .ok (.dup, 1) := dk_get daX16_init_c1 165 (r := (673, .dup, 1)) rfl
theorem dX16_init_674 : decode cX16_init 674 = .ok (.bipush 106, 2) := dk_get daX16_init_c1 166 (r := (674, .bipush 106, 2)) rfl
theorem dX16_init_676 : decode cX16_init 676 = .ok (.bipush 8, 2) := dk_get daX16_init_c1 167 (r := (676, .bipush 8, 2)) rfl
theorem dX16_init_678 : decode cX16_init 678 = .ok (.iastore, 1) := dk_get daX16_init_c1 168 (r := (678, .iastore, 1)) rfl
theorem dX16_init_679 : decode cX16_init 679 = .ok (.dup, 1) := dk_get daX16_init_c1 169 (r := (679, .dup, 1)) rfl
theorem dX16_init_680 : decode cX16_init 680 = .ok (.bipush 107, 2) := dk_get daX16_init_c1 170 (r := (680, .bipush 107, 2)) rfl
theorem dX16_init_682 : decode cX16_init 682 = .ok (.bipush 12, 2) := dk_get daX16_init_c1 171 (r := (682, .bipush 12, 2)) rfl
theorem dX16_init_684 : decode cX16_init 684 = .ok (.iastore, 1) := dk_get daX16_init_c1 172 (r := (684, .iastore, 1)) rfl
theorem dX16_init_685 : decode cX16_init 685 = .ok (.dup, 1) := dk_get daX16_init_c1 173 (r := (685, .dup, 1)) rfl
theorem dX16_init_686 : decode cX16_init 686 = .ok (.bipush 108, 2) := dk_get daX16_init_c1 174 (r := (686, .bipush 108, 2)) rfl
theorem dX16_init_688 : decode cX16_init 688 = .ok (.iconst 4, 1) := dk_get daX16_init_c1 175 (r := (688, .iconst 4, 1)) rfl
theorem dX16_init_689 : decode cX16_init 689 = .ok (.iastore, 1) := dk_get daX16_init_c1 176 (r := (689, .iastore, 1)) rfl
theorem dX16_init_690 : decode cX16_init 690 = .ok (.dup, 1) := dk_get daX16_init_c1 177 (r := (690, .dup, 1)) rfl
theorem dX16_init_691 : decode cX16_init 691 = .ok (.bipush 109, 2) := dk_get daX16_init_c1 178 (r := (691, .bipush 109, 2)) rfl
theorem dX16_init_693 : decode cX16_init 693 = .ok (.bipush 9, 2) := dk_get daX16_init_c1 179 (r := (693, .bipush 9, 2)) rfl
theorem dX16_init_695 : decode cX16_init 695 = .ok (.iastore, 1) := dk_get daX16_init_c1 180 (r := (695, .iastore, 1)) rfl
theorem dX16_init_696 : decode cX16_init 696 = .ok (.dup, 1) := dk_get daX16_init_c1 181 (r := (696, .dup, 1)) rfl
theorem dX16_init_697 : decode cX16_init 697 = .ok (.bipush 110, 2) := dk_get daX16_init_c1 182 (r := (697, .bipush 110, 2)) rfl
theorem dX16_init_699 : decode cX16_init 699 = .ok (.iconst 1, 1) := dk_get daX16_init_c1 183 (r := (699, .iconst 1, 1)) rfl
theorem dX16_init_700 : decode cX16_init 700 = .ok (.iastore, 1) := dk_get daX16_init_c1 184 (r := (700, .iastore, 1)) rfl
theorem dX16_init_701 : decode cX16_init 701 = .ok (.dup, 1) := dk_get daX16_init_c1 185 (r := (701, .dup, 1)) rfl
theorem dX16_init_702 : decode cX16_init 702 = .ok (.bipush 111, 2) := dk_get daX16_init_c1 186 (r := (702, .bipush 111, 2)) rfl
theorem dX16_init_704 : decode cX16_init 704 = .ok (.iconst 2, 1) := dk_get daX16_init_c1 187 (r := (704, .iconst 2, 1)) rfl
theorem dX16_init_705 : decode cX16_init 705 = .ok (.iastore, 1) := dk_get daX16_init_c1 188 (r := (705, .iastore, 1)) rfl
theorem dX16_init_706 : decode cX16_init 706 = .ok (.dup, 1) := dk_get daX16_init_c1 189 (r := (706, .dup, 1)) rfl
theorem dX16_init_707 : decode cX16_init 707 = .ok (.bipush 112, 2) := dk_get daX16_init_c1 190 (r := (707, .bipush 112, 2)) rfl
theorem dX16_init_709 : decode cX16_init 709 = .ok (.bipush 15, 2) := dk_get daX16_init_c1 191 (r := (709, .bipush 15, 2)) rfl
theorem dX16_init_711 : decode cX16_init 711 = .ok (.iastore, 1) := dk_get daX16_init_c1 192 (r := (711, .iastore, 1)) rfl
theorem dX16_init_712 : decode cX16_init 712 = .ok (.dup, 1) := dk_get daX16_init_c1 193 (r := (712, .dup, 1)) rfl
theorem dX16_init_713 : decode cX16_init 713 = .ok (.bipush 113, 2) := dk_get daX16_init_c1 194 (r := (713, .bipush 113, 2)) rfl
theorem dX16_init_715 : decode cX16_init 715 = .ok (.iconst 5, 1) := dk_get daX16_init_c1 195 (r := (715, .iconst 5, 1)) rfl
theorem dX16_init_716 : decode cX16_init 716 = .ok (.iastore, 1) := dk_get daX16_init_c1 196 (r := (716, .iastore, 1)) rfl
theorem dX16_init_717 : decode cX16_init 717 = .ok (.dup, 1) := dk_get daX16_init_c1 197 (r := (717, .dup, 1)) rfl
theorem dX16_init_718 : decode cX16_init 718 = .ok (.bipush 114, 2) := dk_get daX16_init_c1 198 (r := (718, .bipush 114, 2)) rfl
theorem dX16_init_720 : decode cX16_init 720 = .ok (.iconst 1, 1) := dk_get daX16_init_c1 199 (r := (720, .iconst 1, 1)) rfl
theorem dX16_init_721 : decode cX16_init 721 = .ok (.iastore, 1) := dk_get daX16_init_c1 200 (r := (721, .iastore, 1)) rfl
theorem dX16_init_722 : decode cX16_init 722 = .ok (.dup, 1) := dk_get daX16_init_c1 201 (r := (722, .dup, 1)) rfl
theorem dX16_init_723 : decode cX16_init 723 = .ok (.bipush 115, 2) := dk_get daX16_init_c1 202 (r := (723, .bipush 115, 2)) rfl
theorem dX16_init_725 : decode cX16_init 725 = .ok (.iconst 3, 1) := dk_get daX16_init_c1 203 (r := (725, .iconst 3, 1)) rfl
theorem dX16_init_726 : decode cX16_init 726 = .ok (.iastore, 1) := dk_get daX16_init_c1 204 (r := (726, .iastore, 1)) rfl
theorem dX16_init_727 : decode cX16_init 727 = .ok (.dup, 1) := dk_get daX16_init_c1 205 (r := (727, .dup, 1)) rfl
theorem dX16_init_728 : decode cX16_init 728 = .ok (.bipush 116, 2) := dk_get daX16_init_c1 206 (r := (728, .bipush 116, 2)) rfl
theorem dX16_init_730 : decode cX16_init 730 = .ok (.bipush 7, 2) := dk_get daX16_init_c1 207 (r := (730, .bipush 7, 2)) rfl
theorem dX16_init_732 : decode cX16_init 732 = .ok (.iastore, 1) := dk_get daX16_init_c1 208 (r := (732, .iastore, 1)) rfl
theorem dX16_init_733 : decode cX16_init 733 = .ok (.dup, 1) := dk_get daX16_init_c1 209 (r := (733, .dup, 1)) rfl
theorem dX16_init_734 : decode cX16_init 734 = .ok (.bipush 117, 2) := dk_get daX16_init_c1 210 (r := (734, .bipush 117, 2)) rfl
theorem dX16_init_736 : decode cX16_init 736 = .ok (.bipush 14, 2) := dk_get daX16_init_c1 211 (r := (736, .bipush 14, 2)) rfl
theorem dX16_init_738 : decode cX16_init 738 = .ok (.iastore, 1) := dk_get daX16_init_c1 212 (r := (738, .iastore, 1)) rfl
theorem dX16_init_739 : decode cX16_init 739 = .ok (.dup, 1) := dk_get daX16_init_c1 213 (r := (739, .dup, 1)) rfl
theorem dX16_init_740 : decode cX16_init 740 = .ok (.bipush 118, 2) := dk_get daX16_init_c1 214 (r := (740, .bipush 118, 2)) rfl
theorem dX16_init_742 : decode cX16_init 742 = .ok (.bipush 6, 2) := dk_get daX16_init_c1 215 (r := (742, .bipush 6, 2)) rfl
theorem dX16_init_744 : decode cX16_init 744 = .ok (.iastore, 1) := dk_get daX16_init_c1 216 (r := (744, .iastore, 1)) rfl
theorem dX16_init_745 : decode cX16_init 745 = .ok (.dup, 1) := dk_get daX16_init_c1 217 (r := (745, .dup, 1)) rfl
theorem dX16_init_746 : decode cX16_init 746 = .ok (.bipush 119, 2) := dk_get daX16_init_c1 218 (r := (746, .bipush 119, 2)) rfl
theorem dX16_init_748 : decode cX16_init 748 = .ok (.bipush 9, 2) := dk_get daX16_init_c1 219 (r := (748, .bipush 9, 2)) rfl
theorem dX16_init_750 : decode cX16_init 750 = .ok (.iastore, 1) := dk_get daX16_init_c1 220 (r := (750, .iastore, 1)) rfl
theorem dX16_init_751 : decode cX16_init 751 = .ok (.dup, 1) := dk_get daX16_init_c1 221 (r := (751, .dup, 1)) rfl
theorem dX16_init_752 : decode cX16_init 752 = .ok (.bipush 120, 2) := dk_get daX16_init_c1 222 (r := (752, .bipush 120, 2)) rfl
theorem dX16_init_754 : decode cX16_init 754 = .ok (.bipush 11, 2) := dk_get daX16_init_c1 223 (r := (754, .bipush 11, 2)) rfl
theorem dX16_init_756 : decode cX16_init 756 = .ok (.iastore, 1) := dk_get daX16_init_c1 224 (r := (756, .iastore, 1)) rfl
theorem dX16_init_757 : decode cX16_init 757 = .ok (.dup, 1) := dk_get daX16_init_c1 225 (r := (757, .dup, 1)) rfl
theorem dX16_init_758 : decode cX16_init 758 = .ok (.bipush 121, 2) := dk_get daX16_init_c1 226 (r := (758, .bipush 121, 2)) rfl
theorem dX16_init_760 : decode cX16_init 760 = .ok (.bipush 8, 2) := dk_get daX16_init_c1 227 (r := (760, .bipush 8, 2)) rfl
theorem dX16_init_762 : decode cX16_init 762 = .ok (.iastore, 1) := dk_get daX16_init_c1 228 (r := (762, .iastore, 1)) rfl
theorem dX16_init_763 : decode cX16_init 763 = .ok (.dup, 1) := dk_get daX16_init_c1 229 (r := (763, .dup, 1)) rfl
theorem dX16_init_764 : decode cX16_init 764 = .ok (.bipush 122, 2) := dk_get daX16_init_c1 230 (r := (764, .bipush 122, 2)) rfl
theorem dX16_init_766 : decode cX16_init 766 = .ok (.bipush 12, 2) := dk_get daX16_init_c1 231 (r := (766, .bipush 12, 2)) rfl
theorem dX16_init_768 : decode cX16_init 768 = .ok (.iastore, 1) := dk_get daX16_init_c1 232 (r := (768, .iastore, 1)) rfl
theorem dX16_init_769 : decode cX16_init 769 = .ok (.dup, 1) := dk_get daX16_init_c1 233 (r := (769, .dup, 1)) rfl
theorem dX16_init_770 : decode cX16_init 770 = .ok (.bipush 123, 2) := dk_get daX16_init_c1 234 (r := (770, .bipush 123, 2)) rfl
theorem dX16_init_772 : decode cX16_init 772 = .ok (.iconst 2, 1) := dk_get daX16_init_c1 235 (r := (772, .iconst 2, 1)) rfl
theorem dX16_init_773 : decode cX16_init 773 = .ok (.iastore, 1) := dk_get daX16_init_c1 236 (r := (773, .iastore, 1)) rfl
theorem dX16_init_774 : decode cX16_init 774 = .ok (.dup, 1) := dk_get daX16_init_c1 237 (r := (774, .dup, 1)) rfl
theorem dX16_init_775 : decode cX16_init 775 = .ok (.bipush 124, 2) := dk_get daX16_init_c1 238 (r := (775, .bipush 124, 2)) rfl
theorem dX16_init_777 : decode cX16_init 777 = .ok (.bipush 10, 2) := dk_get daX16_init_c1 239 (r := (777, .bipush 10, 2)) rfl
theorem dX16_init_779 : decode cX16_init 779 = .ok (.iastore, 1) := dk_get daX16_init_c1 240 (r := (779, .iastore, 1)) rfl
theorem dX16_init_780 : decode cX16_init 780 = .ok (.dup, 1) := dk_get daX16_init_c1 241 (r := (780, .dup, 1)) rfl
theorem dX16_init_781 : decode cX16_init 781 = .ok (.bipush 125, 2) := dk_get daX16_init_c1 242 (r := (781, .bipush 125, 2)) rfl
theorem dX16_init_783 : decode cX16_init 783 = .ok (.iconst 0, 1) := dk_get daX16_init_c1 243 (r := (783, .iconst 0, 1)) rfl
theorem dX16_init_784 : decode cX16_init 784 = .ok (.iastore, 1) := dk_get daX16_init_c1 244 (r := (784, .iastore, 1)) rfl
theorem dX16_init_785 : decode cX16_init 785 = .ok (.dup, 1) := dk_get daX16_init_c1 245 (r := (785, .dup, 1)) rfl
theorem dX16_init_786 : decode cX16_init 786 = .ok (.bipush 126, 2) := dk_get daX16_init_c1 246 (r := (786, .bipush 126, 2)) rfl
theorem dX16_init_788 : decode cX16_init 788 = .ok (.iconst 4, 1) := dk_get daX16_init_c1 247 (r := (788, .iconst 4, 1)) rfl
theorem dX16_init_789 : decode cX16_init 789 = .ok (.iastore, 1) := dk_get daX16_init_c1 248 (r := (789, .iastore, 1)) rfl
theorem dX16_init_790 : decode cX16_init 790 = .ok (.dup, 1) := dk_get daX16_init_c1 249 (r := (790, .dup, 1)) rfl
theorem dX16_init_791 : decode cX16_init 791 = .ok (.bipush 127, 2) := dk_get daX16_init_c1 250 (r := (791, .bipush 127, 2)) rfl
theorem dX16_init_793 : decode cX16_init 793 = .ok (.bipush 13, 2) := dk_get daX16_init_c1 251 (r := (793, .bipush 13, 2)) rfl
theorem dX16_init_795 : decode cX16_init 795 = .ok (.iastore, 1) := dk_get daX16_init_c1 252 (r := (795, .iastore, 1)) rfl
theorem dX16_init_796 : decode cX16_init 796 = .ok (.dup, 1) := dk_get daX16_init_c1 253 (r := (796, .dup, 1)) rfl
theorem dX16_init_797 : decode cX16_init 797 = .ok (.sipush 128, 3) := dk_get daX16_init_c1 254 (r := (797, .sipush 128, 3)) rfl
theorem dX16_init_800 : decode cX16_init 800 = .ok (.bipush 8, 2) := dk_get daX16_init_c1 255 (r := (800, .bipush 8, 2)) rfl
theorem dX16_init_802 : decode cX16_init 802 = .ok (.iastore, 1) := dk_get daX16_init_c1 256 (r := (802, .iastore, 1)) rfl
theorem dX16_init_803 : decode cX16_init 803 = .ok (.dup, 1) := dk_get daX16_init_c1 257 (r := (803, .dup, 1)) rfl
theorem dX16_init_804 : decode cX16_init 804 = .ok (.sipush 129, 3) := dk_get daX16_init_c1 258 (r := (804, .sipush 129, 3)) rfl
theorem dX16_init_807 : decode cX16_init 807 = .ok (.bipush 6, 2) := dk_get daX16_init_c1 259 (r := (807, .bipush 6, 2)) rfl
theorem dX16_init_809 : decode cX16_init 809 = .ok (.iastore, 1) := dk_get daX16_init_c1 260 (r := (809, .iastore, 1)) rfl
theorem dX16_init_810 : decode cX16_init 810 = .ok (.dup, 1) := dk_get daX16_init_c1 261 (r := (810, .dup, 1)) rfl
theorem dX16_init_811 : decode cX16_init 811 = .ok (.sipush 130, 3) := dk_get daX16_init_c1 262 (r := (811, .sipush 130, 3)) rfl
theorem dX16_init_814 : decode cX16_init 814 = .ok (.iconst 4, 1) := dk_get daX16_init_c1 263 (r := (814, .iconst 4, 1)) rfl
theorem dX16_init_815 : decode cX16_init 815 = .ok (.iastore, 1) := dk_get daX16_init_c1 264 (r := (815, .iastore, 1)) rfl
theorem dX16_init_816 : decode cX16_init 816 = .ok (.dup, 1) := dk_get daX16_init_c1 265 (r := (816, .dup, 1)) rfl
theorem dX16_init_817 : decode cX16_init 817 = .ok (.sipush 131, 3) := dk_get daX16_init_c1 266 (r := (817, .sipush 131, 3)) rfl
theorem dX16_init_820 : decode cX16_init 820 = .ok (.iconst 1, 1) := dk_get daX16_init_c1 267 (r := (820, .iconst 1, 1)) rfl
theorem dX16_init_821 : decode cX16_init 821 = .ok (.iastore, 1) := dk_get daX16_init_c1 268 (r := (821, .iastore, 1)) rfl
theorem dX16_init_822 : decode cX16_init 822 = .ok (.dup, 1) := dk_get daX16_init_c1 269 (r := (822, .dup, 1)) rfl
theorem dX16_init_823 : decode cX16_init 823 = .ok (.sipush 132, 3) := dk_get daX16_init_c1 270 (r := (823, .sipush 132, 3)) rfl
theorem dX16_init_826 : decode cX16_init 826 = .ok (.iconst 3, 1) := dk_get daX16_init_c1 271 (r := (826, .iconst 3, 1)) rfl
theorem dX16_init_827 : decode cX16_init 827 = .ok (.iastore, 1) := dk_get daX16_init_c1 272 (r := (827, .iastore, 1)) rfl
theorem dX16_init_828 : decode cX16_init 828 = .ok (.dup, 1) := dk_get daX16_init_c1 273 (r := (828, .dup, 1)) rfl
theorem dX16_init_829 : decode cX16_init 829 = .ok (.sipush 133, 3) := dk_get daX16_init_c1 274 (r := (829, .sipush 133, 3)) rfl
theorem dX16_init_832 : decode cX16_init 832 = .ok (.bipush 11, 2) := dk_get daX16_init_c1 275 (r := (832, .bipush 11, 2)) rfl
theorem dX16_init_834 : decode cX16_init 834 = .ok (.iastore, 1) := dk_get daX16_init_c1 276 (r := (834, .iastore, 1)) rfl
theorem dX16_init_835 : decode cX16_init 835 = .ok (.dup, 1) := dk_get daX16_init_c1 277 (r := (835, .dup, 1)) rfl
theorem dX16_init_836 : decode cX16_init 836 = .ok (.sipush 134, 3) := dk_get daX16_init_c1 278 (r := (836, .sipush 134, 3)) rfl
theorem dX16_init_839 : decode cX16_init 839 = .ok (.bipush 15, 2) := dk_get daX16_init_c1 279 (r := (839, .bipush 15, 2)) rfl
theorem dX16_init_841 : decode cX16_init 841 = .ok (.iastore, 1) := dk_get daX16_init_c1 280 (r := (841, .iastore, 1)) rfl
theorem dX16_init_842 : decode cX16_init 842 = .ok (.dup, 1) := dk_get daX16_init_c1 281 (r := (842, .dup, 1)) rfl
theorem dX16_init_843 : decode cX16_init 843 = .ok (.sipush 135, 3) := dk_get daX16_init_c1 282 (r := (843, .sipush 135, 3)) rfl
theorem dX16_init_846 : decode cX16_init 846 = .ok (.iconst 0, 1) := dk_get daX16_init_c1 283 (r := (846, .iconst 0, 1)) rfl
theorem dX16_init_847 : decode cX16_init 847 = .ok (.iastore, 1) := dk_get daX16_init_c1 284 (r := (847, .iastore, 1)) rfl
theorem dX16_init_848 : decode cX16_init 848 = .ok (.dup, 1) := dk_get daX16_init_c1 285 (r := (848, .dup, 1)) rfl
theorem dX16_init_849 : decode cX16_init 849 = .ok (.sipush 136, 3) := dk_get daX16_init_c1 286 (r := (849, .sipush 136, 3)) rfl
theorem dX16_init_852 : decode cX16_init 852 = .ok (.iconst 5, 1) := dk_get daX16_init_c1 287 (r := (852, .iconst 5, 1)) rfl
theorem dX16_init_853 : decode cX16_init 853 = .ok (.iastore, 1) := dk_get daX16_init_c1 288 (r := (853, .iastore, 1)) rfl
theorem dX16_init_854 : decode cX16_init 854 = .ok (.dup, 1) := dk_get daX16_init_c1 289 (r := (854, .dup, 1)) rfl
theorem dX16_init_855 : decode cX16_init 855 = .ok (.sipush 137, 3) := dk_get daX16_init_c1 290 (r := (855, .sipush 137, 3)) rfl
theorem dX16_init_858 : decode cX16_init 858 = .ok (.bipush 12, 2) := dk_get daX16_init_c1 291 (r := (858, .bipush 12, 2)) rfl
theorem dX16_init_860 : decode cX16_init 860 = .ok (.iastore, 1) := dk_get daX16_init_c1 292 (r := (860, .iastore, 1)) rfl
theorem dX16_init_861 : decode cX16_init 861 = .ok (.dup, 1) := dk_get daX16_init_c1 293 (r := (861, .dup, 1)) rfl
theorem dX16_init_862 : decode cX16_init 862 = .ok (.sipush 138, 3) := dk_get daX16_init_c1 294 (r := (862, .sipush 138, 3)) rfl
theorem dX16_init_865 : decode cX16_init 865 = .ok (.iconst 2, 1) := dk_get daX16_init_c1 295 (r := (865, .iconst 2, 1)) rfl
theorem dX16_init_866 : decode cX16_init 866 = .ok (.iastore, 1) := dk_get daX16_init_c1 296 (r := (866, .iastore, 1)) rfl
theorem dX16_init_867 : decode cX16_init 867 = .ok (.dup, 1) := dk_get daX16_init_c1 297 (r := (867, .dup, 1)) rfl
theorem dX16_init_868 : decode cX16_init 868 = .ok (.sipush 139, 3) := dk_get daX16_init_c1 298 (r := (868, .sipush 139, 3)) rfl
theorem dX16_init_871 : decode cX16_init 871 = .ok (.bipush 13, 2) := dk_get daX16_init_c1 299 (r := (871, .bipush 13, 2)) rfl
def drX16_init_c2 : List (Nat × Instr × Nat) := [(873, .iastore, 1), (874, .dup, 1), (875, .sipush 140, 3), (878, .bipush 9, 2), (880, .iastore, 1), (881, .dup, 1), (882, .sipush 141, 3), (885, .bipush 7, 2), (887, .iastore, 1), (888, .dup, 1), (889, .sipush 142, 3), (892, .bipush 10, 2), (894, .iastore, 1), (895, .dup, 1), (896, .sipush 143, 3), (899, .bipush 14, 2), (901, .iastore, 1), (902, .dup, 1), (903, .sipush 144, 3), (906, .bipush 12, 2), (908, .iastore, 1), (909, .dup, 1), (910, .sipush 145, 3), (913, .bipush 15, 2), (915, .iastore, 1), (916, .dup, 1), (917, .sipush 146, 3), (920, .bipush 10, 2), (922, .iastore, 1), (923, .dup, 1), (924, .sipush 147, 3), (927, .iconst 4, 1), (928, .iastore, 1), (929, .dup, 1), (930, .sipush 148, 3), (933, .iconst 1, 1), (934, .iastore, 1), (935, .dup, 1), (936, .sipush 149, 3), (939, .iconst 5, 1), (940, .iastore, 1), (941, .dup, 1), (942, .sipush 150, 3), (945, .bipush 8, 2), (947, .iastore, 1), (948, .dup, 1), (949, .sipush 151, 3), (952, .bipush 7, 2), (954, .iastore, 1), (955, .dup, 1), (956, .sipush 152, 3), (959, .bipush 6, 2), (961, .iastore, 1), (962, .dup, 1), (963, .sipush 153, 3), (966, .iconst 2, 1), (967, .iastore, 1), (968, .dup, 1), (969, .sipush 154, 3), (972, .bipush 13, 2), (974, .iastore, 1), (975, .dup, 1), (976, .sipush 155, 3), (979, .bipush 14, 2), (981, .iastore, 1), (982, .dup, 1), (983, .sipush 156, 3), (986, .iconst 0, 1), (987, .iastore, 1), (988, .dup, 1), (989, .sipush 157, 3), (992, .iconst 3, 1), (993, .iastore, 1), (994, .dup, 1), (995, .sipush 158, 3), (998, .bipush 9, 2), (1000, .iastore, 1), (1001, .dup, 1), (1002, .sipush 159, 3), (1005, .bipush 11, 2), (1007, .iastore, 1), (1008, .putfield 74, 3), (1011, .aload_n 0, 1), (1012, .sipush 160, 3), (1015, .newarray .int, 2), (1017, .dup, 1), (1018, .iconst 0, 1), (1019, .bipush 11, 2), (1021, .iastore, 1), (1022, .dup, 1), (1023, .iconst 1, 1), (1024, .bipush 14, 2), (1026, .iastore, 1), (1027, .dup, 1), (1028, .iconst 2, 1), (1029, .bipush 15, 2), (1031, .iastore, 1), (1032, .dup, 1), (1033, .iconst 3, 1), (1034, .bipush 12, 2), (1036, .iastore, 1), (1037, .dup, 1), (1038, .iconst 4, 1), (1039, .iconst 5, 1), (1040, .iastore, 1), (1041, .dup, 1), (1042, .iconst 5, 1), (1043, .bipush 8, 2), (1045, .iastore, 1), (1046, .dup, 1), (1047, .bipush 6, 2), (1049, .bipush 7, 2), (1051, .iastore, 1), (1052, .dup, 1), (1053, .bipush 7, 2), (1055, .bipush 9, 2), (1057, .iastore, 1), (1058, .dup, 1), (1059, .bipush 8, 2), (1061, .bipush 11, 2), (1063, .iastore, 1), (1064, .dup, 1), (1065, .bipush 9, 2), (1067, .bipush 13, 2), (1069, .iastore, 1), (1070, .dup, 1), (1071, .bipush 10, 2), (1073, .bipush 14, 2), (1075, .iastore, 1), (1076, .dup, 1), (1077, .bipush 11, 2), (1079, .bipush 15, 2), (1081, .iastore, 1), (1082, .dup, 1), (1083, .bipush 12, 2), (1085, .bipush 6, 2), (1087, .iastore, 1), (1088, .dup, 1), (1089, .bipush 13, 2), (1091, .bipush 7, 2), (1093, .iastore, 1), (1094, .dup, 1), (1095, .bipush 14, 2), (1097, .bipush 9, 2), (1099, .iastore, 1), (1100, .dup, 1), (1101, .bipush 15, 2), (1103, .bipush 8, 2), (1105, .iastore, 1), (1106, .dup, 1), (1107, .bipush 16, 2), (1109, .bipush 7, 2), (1111, .iastore, 1), (1112, .dup, 1), (1113, .bipush 17, 2), (1115, .bipush 6, 2), (1117, .iastore, 1), (1118, .dup, 1), (1119, .bipush 18, 2), (1121, .bipush 8, 2), (1123, .iastore, 1), (1124, .dup, 1), (1125, .bipush 19, 2), (1127, .bipush 13, 2), (1129, .iastore, 1), (1130, .dup, 1), (1131, .bipush 20, 2), (1133, .bipush 11, 2), (1135, .iastore, 1), (1136, .dup, 1), (1137, .bipush 21, 2), (1139, .bipush 9, 2), (1141, .iastore, 1), (1142, .dup, 1), (1143, .bipush 22, 2), (1145, .bipush 7, 2), (1147, .iastore, 1), (1148, .dup, 1), (1149, .bipush 23, 2), (1151, .bipush 15, 2), (1153, .iastore, 1), (1154, .dup, 1), (1155, .bipush 24, 2), (1157, .bipush 7, 2), (1159, .iastore, 1), (1160, .dup, 1), (1161, .bipush 25, 2), (1163, .bipush 12, 2), (1165, .iastore, 1), (1166, .dup, 1), (1167, .bipush 26, 2), (1169, .bipush 15, 2), (1171, .iastore, 1), (1172, .dup, 1), (1173, .bipush 27, 2), (1175, .bipush 9, 2), (1177, .iastore, 1), (1178, .dup, 1), (1179, .bipush 28, 2), (1181, .bipush 11, 2), (1183, .iastore, 1), (1184, .dup, 1), (1185, .bipush 29, 2), (1187, .bipush 7, 2), (1189, .iastore, 1), (1190, .dup, 1), (1191, .bipush 30, 2), (1193, .bipush 13, 2), (1195, .iastore, 1), (1196, .dup, 1), (1197, .bipush 31, 2), (1199, .bipush 12, 2), (1201, .iastore, 1), (1202, .dup, 1), (1203, .bipush 32, 2), (1205, .bipush 11, 2), (1207, .iastore, 1), (1208, .dup, 1), (1209, .bipush 33, 2), (1211, .bipush 13, 2), (1213, .iastore, 1), (1214, .dup, 1), (1215, .bipush 34, 2), (1217, .bipush 6, 2), (1219, .iastore, 1), (1220, .dup, 1), (1221, .bipush 35, 2), (1223, .bipush 7, 2), (1225, .iastore, 1), (1226, .dup, 1), (1227, .bipush 36, 2), (1229, .bipush 14, 2), (1231, .iastore, 1), (1232, .dup, 1), (1233, .bipush 37, 2), (1235, .bipush 9, 2), (1237, .iastore, 1), (1238, .dup, 1), (1239, .bipush 38, 2), (1241, .bipush 13, 2), (1243, .iastore, 1), (1244, .dup, 1), (1245, .bipush 39, 2), (1247, .bipush 15, 2), (1249, .iastore, 1), (1250, .dup, 1), (1251, .bipush 40, 2), (1253, .bipush 14, 2), (1255, .iastore, 1), (1256, .dup, 1), (1257, .bipush 41, 2), (1259, .bipush 8, 2), (1261, .iastore, 1), (1262, .dup, 1), (1263, .bipush 42, 2), (1265, .bipush 13, 2), (1267, .iastore, 1), (1268, .dup, 1), (1269, .bipush 43, 2), (1271, .bipush 6, 2), (1273, .iastore, 1), (1274, .dup, 1), (1275, .bipush 44, 2), (1277, .iconst 5, 1), (1278, .iastore, 1), (1279, .dup, 1), (1280, .bipush 45, 2), (1282, .bipush 12, 2), (1284, .iastore, 1), (1285, .dup, 1), (1286, .bipush 46, 2), (1288, .bipush 7, 2), (1290, .iastore, 1), (1291, .dup, 1), (1292, .bipush 47, 2), (1294, .iconst 5, 1), (1295, .iastore, 1), (1296, .dup, 1), (1297, .bipush 48, 2), (1299, .bipush 11, 2), (1301, .iastore, 1), (1302, .dup, 1), (1303, .bipush 49, 2), (1305, .bipush 12, 2), (1307, .iastore, 1), (1308, .dup, 1), (1309, .bipush 50, 2), (1311, .bipush 14, 2), (1313, .iastore, 1), (1314, .dup, 1), (1315, .bipush 51, 2), (1317, .bipush 15, 2), (1319, .iastore, 1), (1320, .dup, 1), (1321, .bipush 52, 2), (1323, .bipush 14, 2), (1325, .iastore, 1), (1326, .dup, 1), (1327, .bipush 53, 2), (1329, .bipush 15, 2)]
set_option maxRecDepth 100000 in
theorem daX16_init_c2 : dk_all cX16_init drX16_init_c2 = true := by decide +kernel
theorem dX16_init_873 : decode cX16_init 873 = .ok (.iastore, 1) := dk_get daX16_init_c2 0 (r := (873, .iastore, 1)) rfl
theorem dX16_init_874 : decode cX16_init 874 = .ok (.dup, 1) := dk_get daX16_init_c2 1 (r := (874, .dup, 1)) rfl
theorem dX16_init_875 : decode cX16_init 875 = .ok (.sipush 140, 3) := dk_get daX16_init_c2 2 (r := (875, .sipush 140, 3)) rfl
theorem dX16_init_878 : decode cX16_init 878 = .ok (.bipush 9, 2) := dk_get daX16_init_c2 3 (r := (878, .bipush 9, 2)) rfl
theorem dX16_init_880 : decode cX16_init 880 = .ok (.iastore, 1) := dk_get daX16_init_c2 4 (r := (880, .iastore, 1)) rfl
theorem dX16_init_881 : decode cX16_init 881 = .ok (.dup, 1) := dk_get daX16_init_c2 5 (r := (881, .dup, 1)) rfl
theorem dX16_init_882 : decode cX16_init 882 = .ok (.sipush 141, 3) := dk_get daX16_init_c2 6 (r := (882, .sipush 141, 3)) rfl
theorem dX16_init_885 : decode cX16_init 885 = .ok (.bipush 7, 2) := dk_get daX16_init_c2 7 (r := (885, .bipush 7, 2)) rfl
theorem dX16_init_887 : decode cX16_init 887 = .ok (.iastore, 1) := dk_get daX16_init_c2 8 (r := (887, .iastore, 1)) rfl
theorem dX16_init_888 : decode cX16_init 888 = .ok (.dup, 1) := dk_get daX16_init_c2 9 (r := (888, .dup, 1)) rfl
theorem dX16_init_889 : decode cX16_init 889 = .ok (.sipush 142, 3) := dk_get daX16_init_c2 10 (r := (889, .sipush 142, 3)) rfl
theorem dX16_init_892 : decode cX16_init 892 = .ok (.bipush 10, 2) := dk_get daX16_init_c2 11 (r := (892, .bipush 10, 2)) rfl
theorem dX16_init_894 : decode cX16_init 894 = .ok (.iastore, 1) := dk_get daX16_init_c2 12 (r := (894, .iastore, 1)) rfl
theorem dX16_init_895 : decode cX16_init 895 = .ok (.dup, 1) := dk_get daX16_init_c2 13 (r := (895, .dup, 1)) rfl
theorem dX16_init_896 : decode cX16_init 896 = .ok (.sipush 143, 3) := dk_get daX16_init_c2 14 (r := (896, .sipush 143, 3)) rfl
theorem dX16_init_899 : decode cX16_init 899 = .ok (.bipush 14, 2) := dk_get daX16_init_c2 15 (r := (899, .bipush 14, 2)) rfl
theorem dX16_init_901 : decode cX16_init 901 = .ok (.iastore, 1) := dk_get daX16_init_c2 16 (r := (901, .iastore, 1)) rfl
theorem dX16_init_902 : decode cX16_init 902 = .ok (.dup, 1) := dk_get daX16_init_c2 17 (r := (902, .dup, 1)) rfl
theorem dX16_init_903 : decode cX16_init 903 = .ok (.sipush 144, 3) := dk_get daX16_init_c2 18 (r := (903, .sipush 144, 3)) rfl
theorem dX16_init_906 : decode cX16_init 906 = .ok (.bipush 12, 2) := dk_get daX16_init_c2 19 (r := (906, .bipush 12, 2)) rfl
theorem dX16_init_908 : decode cX16_init 908 = .ok (.iastore, 1) := dk_get daX16_init_c2 20 (r := (908, .iastore, 1)) rfl
theorem dX16_init_909 : decode cX16_init 909 = .ok (.dup, 1) := dk_get daX16_init_c2 21 (r := (909, .dup, 1)) rfl
theorem dX16_init_910 : decode cX16_init 910 = .ok (.sipush 145, 3) := dk_get daX16_init_c2 22 (r := (910, .sipush 145, 3)) rfl
theorem dX16_init_913 : decode cX16_init 913 = .ok (.bipush 15, 2) := dk_get daX16_init_c2 23 (r := (913, .bipush 15, 2)) rfl
theorem dX16_init_915 : decode cX16_init 915 = .ok (.iastore, 1) := dk_get daX16_init_c2 24 (r := (915, .iastore, 1)) rfl
theorem dX16_init_916 : decode cX16_init 916 = .ok (.dup, 1) := dk_get daX16_init_c2 25 (r := (916, .dup, 1)) rfl
theorem dX16_init_917 : decode cX16_init 917 = .ok (.sipush 146, 3) := dk_get daX16_init_c2 26 (r := (917, .sipush 146, 3)) rfl
theorem dX16_init_920 : decode cX16_init 920 = .ok (.bipush 10, 2) := dk_get daX16_init_c2 27 (r := (920, .bipush 10, 2)) rfl
theorem dX16_init_922 : decode cX16_init 922 = .ok (.iastore, 1) := dk_get daX16_init_c2 28 (r := (922, .iastore, 1)) rfl
theorem dX16_init_923 : decode cX16_init 923 = .ok (.dup, 1) := dk_get daX16_init_c2 29 (r := (923, .dup, 1)) rfl
theorem dX16_init_924 : decode cX16_init 924 = .ok (.sipush 147, 3) := dk_get daX16_init_c2 30 (r := (924, .sipush 147, 3)) rfl
theorem dX16_init_927 : decode cX16_init 927 = .ok (.iconst 4, 1) := dk_get daX16_init_c2 31 (r := (927, .iconst 4, 1)) rfl
theorem dX16_init_928 : decode cX16_init 928 = .ok (.iastore, 1) := dk_get daX16_init_c2 32 (r := (928, .iastore, 1)) rfl
theorem dX16_init_929 : decode cX16_init 929 = .ok (.dup, 1) := dk_get daX16_init_c2 33 (r := (929, .dup, 1)) rfl
theorem dX16_init_930 : decode cX16_init 930 = .ok (.sipush 148, 3) := dk_get daX16_init_c2 34 (r := (930, .sipush 148, 3)) rfl
theorem dX16_init_933 : decode cX16_init 933 = .ok (.iconst 1, 1) := dk_get daX16_init_c2 35 (r := (933, .iconst 1, 1)) rfl
theorem dX16_init_934 : decode cX16_init 934 = .ok (.iastore, 1) := dk_get daX16_init_c2 36 (r := (934, .iastore, 1)) rfl
theorem dX16_init_935 : decode cX16_init 935 = .ok (.dup, 1) := dk_get daX16_init_c2 37 (r := (935, .dup, 1)) rfl
theorem dX16_init_936 : decode cX16_init 936 = .ok (.sipush 149, 3) := dk_get daX16_init_c2 38 (r := (936, .sipush 149, 3)) rfl
theorem dX16_init_939 : decode cX16_init 939 = .ok (.iconst 5, 1) := dk_get daX16_init_c2 39 (r := (939, .iconst 5, 1)) rfl
theorem dX16_init_940 : decode cX16_init 940 = .ok (.iastore, 1) := dk_get daX16_init_c2 40 (r := (940, .iastore, 1)) rfl
theorem dX16_init_941 : decode cX16_init 941 = .ok (.dup, 1) := dk_get daX16_init_c2 41 (r := (941, .dup, 1)) rfl
theorem dX16_init_942 : decode cX16_init 942 = .ok (.sipush 150, 3) := dk_get daX16_init_c2 42 (r := (942, .sipush 150, 3)) rfl
theorem dX16_init_945 : decode cX16_init 945 = .ok (.bipush 8, 2) := dk_get daX16_init_c2 43 (r := (945, .bipush 8, 2)) rfl
theorem dX16_init_947 : decode cX16_init 947 = .ok (.iastore, 1) := dk_get daX16_init_c2 44 (r := (947, .iastore, 1)) rfl
theorem dX16_init_948 : decode cX16_init 948 = .ok (.dup, 1) := dk_get daX16_init_c2 45 (r := (948, .dup, 1)) rfl
theorem dX16_init_949 : decode cX16_init 949 = .ok (.sipush 151, 3) := dk_get daX16_init_c2 46 (r := (949, .sipush 151, 3)) rfl
theorem dX16_init_952 : decode cX16_init 952 = .ok (.bipush 7, 2) := dk_get daX16_init_c2 47 (r := (952, .bipush 7, 2)) rfl
theorem dX16_init_954 : decode cX16_init 954 = .ok (.iastore, 1) := dk_get daX16_init_c2 48 (r := (954, .iastore, 1)) rfl
theorem dX16_init_955 : decode cX16_init 955 = .ok (.dup, 1) := dk_get daX16_init_c2 49 (r := (955, .dup, 1)) rfl
theorem dX16_init_956 : decode cX16_init 956 = .ok (.sipush 152, 3) := dk_get daX16_init_c2 50 (r := (956, .sipush 152, 3)) rfl
theorem dX16_init_959 : decode cX16_init 959 = .ok (.bipush 6, 2) := dk_get daX16_init_c2 51 (r := (959, .bipush 6, 2)) rfl
theorem dX16_init_961 : decode cX16_init 961 = .ok (.iastore, 1) := dk_get daX16_init_c2 52 (r := (961, .iastore, 1)) rfl
theorem dX16_init_962 : decode cX16_init 962 = .ok (.dup, 1) := dk_get daX16_init_c2 53 (r := (962, .dup, 1)) rfl
theorem dX16_init_963 : decode cX16_init 963 = .ok (.sipush 153, 3) := dk_get daX16_init_c2 54 (r := (963, .sipush 153, 3)) rfl
theorem dX16_init_966 : decode cX16_init 966 = .ok (.iconst 2, 1) := dk_get daX16_init_c2 55 (r := (966, .iconst 2, 1)) rfl
theorem dX16_init_967 : decode cX16_init 967 = .ok (.iastore, 1) := dk_get daX16_init_c2 56 (r := (967, .iastore, 1)) rfl
theorem dX16_init_968 : decode cX16_init 968 = .ok (.dup, 1) := dk_get daX16_init_c2 57 (r := (968, .dup, 1)) rfl
theorem dX16_init_969 : decode cX16_init 969 = .ok (.sipush 154, 3) := dk_get daX16_init_c2 58 (r := (969, .sipush 154, 3)) rfl
theorem dX16_init_972 : decode cX16_init 972 = .ok (.bipush 13, 2) := dk_get daX16_init_c2 59 (r := (972, .bipush 13, 2)) rfl
theorem dX16_init_974 : decode cX16_init 974 = .ok (.iastore, 1) := dk_get daX16_init_c2 60 (r := (974, .iastore, 1)) rfl
theorem dX16_init_975 : decode cX16_init 975 = .ok (.dup, 1) := dk_get daX16_init_c2 61 (r := (975, .dup, 1)) rfl
theorem dX16_init_976 : decode cX16_init 976 = .ok (.sipush 155, 3) := dk_get daX16_init_c2 62 (r := (976, .sipush 155, 3)) rfl
theorem dX16_init_979 : decode cX16_init 979 = .ok (.bipush 14, 2) := dk_get daX16_init_c2 63 (r := (979, .bipush 14, 2)) rfl
theorem dX16_init_981 : decode cX16_init 981 = .ok (.iastore, 1) := dk_get daX16_init_c2 64 (r := (981, .iastore, 1)) rfl
theorem dX16_init_982 : decode cX16_init 982 = .ok (.dup, 1) := dk_get daX16_init_c2 65 (r := (982, .dup, 1)) rfl
theorem dX16_init_983 : decode cX16_init 983 = .ok (.sipush 156, 3) := dk_get daX16_init_c2 66 (r := (983, .sipush 156, 3)) rfl
theorem dX16_init_986 : decode cX16_init 986 = .ok (.iconst 0, 1) := dk_get daX16_init_c2 67 (r := (986, .iconst 0, 1)) rfl
theorem dX16_init_987 : decode cX16_init 987 = .ok (.iastore, 1) := dk_get daX16_init_c2 68 (r := (987, .iastore, 1)) rfl
theorem dX16_init_988 : decode cX16_init 988 = .ok (.dup, 1) := dk_get daX16_init_c2 69 (r := (988, .dup, 1)) rfl
theorem dX16_init_989 : decode cX16_init 989 = .ok (.sipush 157, 3) := dk_get daX16_init_c2 70 (r := (989, .sipush 157, 3)) rfl
theorem dX16_init_992 : decode cX16_init 992 = .ok (.iconst 3, 1) := dk_get daX16_init_c2 71 (r := (992, .iconst 3, 1)) rfl
theorem dX16_init_993 : decode cX16_init 993 = .ok (.iastore, 1) := dk_get daX16_init_c2 72 (r := (993, .iastore, 1)) rfl
theorem dX16_init_994 : decode cX16_init 994 = .ok (.dup, 1) := dk_get daX16_init_c2 73 (r := (994, .dup, 1)) rfl
theorem dX16_init_995 : decode cX16_init 995 = .ok (.sipush 158, 3) := dk_get daX16_init_c2 74 (r := (995, .sipush 158, 3)) rfl
theorem dX16_init_998 : decode cX16_init 998 = .ok (.bipush 9, 2) := dk_get daX16_init_c2 75 (r := (998, .bipush 9, 2)) rfl
theorem dX16_init_1000 : decode cX16_init 1000 = .ok (.iastore, 1) := dk_get daX16_init_c2 76 (r := (1000, .iastore, 1)) rfl
theorem dX16_init_1001 : decode cX16_init 1001 = .ok (.dup, 1) := dk_get daX16_init_c2 77 (r := (1001, .dup, 1)) rfl
theorem dX16_init_1002 : decode cX16_init 1002 = .ok (.sipush 159, 3) := dk_get daX16_init_c2 78 (r := (1002, .sipush 159, 3)) rfl
theorem dX16_init_1005 : decode cX16_init 1005 = .ok (.bipush 11, 2) := dk_get daX16_init_c2 79 (r := (1005, .bipush 11, 2)) rfl
theorem dX16_init_1007 : decode cX16_init 1007 = .ok (.iastore, 1) := dk_get daX16_init_c2 80 (r := (1007, .iastore, 1)) rfl
theorem dX16_init_1008 : decode cX16_init 1008 = .ok (.putfield 74, 3) := dk_get daX16_init_c2 81 (r := (1008, .putfield 74, 3)) rfl
theorem dX16_init_1011 : decode cX16_init 1011 = .ok (.aload_n 0, 1) := dk_get daX16_init_c2 82 (r := (1011, .aload_n 0, 1)) rfl
theorem dX16_init_1012 : decode cX16_init 1012 = .ok (.sipush 160, 3) := dk_get daX16_init_c2 83 (r := (1012, .sipush 160, 3)) rfl
theorem dX16_init_1015 : decode cX16_init 1015 = .ok (.newarray .int, 2) := dk_get daX16_init_c2 84 (r := (1015, .newarray .int, 2)) rfl
theorem dX16_init_1017 : decode cX16_init 1017 = .ok (.dup, 1) := dk_get daX16_init_c2 85 (r := (1017, .dup, 1)) rfl
theorem dX16_init_1018 : decode cX16_init 1018 = .ok (.iconst 0, 1) := dk_get daX16_init_c2 86 (r := (1018, .iconst 0, 1)) rfl
theorem dX16_init_1019 : decode cX16_init 1019 = .ok (.bipush 11, 2) := dk_get daX16_init_c2 87 (r := (1019, .bipush 11, 2)) rfl
theorem dX16_init_1021 : decode cX16_init 1021 = .ok (.iastore, 1) := dk_get daX16_init_c2 88 (r := (1021, .iastore, 1)) rfl
theorem dX16_init_1022 : decode cX16_init 1022 = .ok (.dup, 1) := dk_get daX16_init_c2 89 (r := (1022, .dup, 1)) rfl
theorem dX16_init_1023 : decode cX16_init 1023 = .ok (.iconst 1, 1) := dk_get daX16_init_c2 90 (r := (1023, .iconst 1, 1)) rfl
theorem dX16_init_1024 : decode cX16_init 1024 = .ok (.bipush 14, 2) := dk_get daX16_init_c2 91 (r := (1024, .bipush 14, 2)) rfl
theorem dX16_init_1026 : decode cX16_init 1026 = .ok (.iastore, 1) := dk_get daX16_init_c2 92 (r := (1026, .iastore, 1)) rfl
theorem dX16_init_1027 : decode cX16_init 1027 = .ok (.dup, 1) := dk_get daX16_init_c2 93 (r := (1027, .dup, 1)) rfl
theorem dX16_init_1028 : decode cX16_init 1028 = .ok (.iconst 2, 1) := dk_get daX16_init_c2 94 (r := (1028, .iconst 2, 1)) rfl
theorem dX16_init_1029 : decode cX16_init 1029 = .ok (.bipush 15, 2) := dk_get daX16_init_c2 95 (r := (1029, .bipush 15, 2)) rfl
theorem dX16_init_1031 : decode cX16_init 1031 = .ok (.iastore, 1) := dk_get daX16_init_c2 96 (r := (1031, .iastore, 1)) rfl
theorem dX16_init_1032 : decode cX16_init 1032 = .ok (.dup, 1) := dk_get daX16_init_c2 97 (r := (1032, .dup, 1)) rfl
theorem dX16_init_1033 : decode cX16_init 1033 = .ok (.iconst 3, 1) := dk_get daX16_init_c2 98 (r := (1033, .iconst 3, 1)) rfl
theorem dX16_init_1034 : decode cX16_init 1034 = .ok (.bipush 12, 2) := dk_get daX16_init_c2 99 (r := (1034, .bipush 12, 2)) rfl
theorem dX16_init_1036 : decode cX16_init 1036 = .ok (.iastore, 1) := dk_get daX16_init_c2 100 (r := (1036, .iastore, 1)) rfl
theorem dX16_init_1037 : decode cX16_init 1037 = .ok (.dup, 1) := dk_get daX16_init_c2 101 (r := (1037, .dup, 1)) rfl
theorem dX16_init_1038 : decode cX16_init 1038 = .ok (.iconst 4, 1) := dk_get daX16_init_c2 102 (r := (1038, .iconst 4, 1)) rfl
theorem dX16_init_1039 : decode cX16_init 1039 = .ok (.iconst 5, 1) := dk_get daX16_init_c2 103 (r := (1039, .iconst 5, 1)) rfl
theorem dX16_init_1040 : decode cX16_init 1040 = .ok (.iastore, 1) := dk_get daX16_init_c2 104 (r := (1040, .iastore, 1)) rfl
theorem dX16_init_1041 : decode cX16_init 1041 = .ok (.dup, 1) := dk_get daX16_init_c2 105 (r := (1041, .dup, 1)) rfl
theorem dX16_init_1042 : decode cX16_init 1042 = .ok (.iconst 5, 1) := dk_get daX16_init_c2 106 (r := (1042, .iconst 5, 1)) rfl
theorem dX16_init_1043 : decode cX16_init 1043 = .ok (.bipush 8, 2) := dk_get daX16_init_c2 107 (r := (1043, .bipush 8, 2)) rfl
theorem dX16_init_1045 : decode cX16_init 1045 = .ok (.iastore, 1) := dk_get daX16_init_c2 108 (r := (1045, .iastore, 1)) rfl
theorem dX16_init_1046 : decode cX16_init 1046 = .ok (.dup, 1) := dk_get daX16_init_c2 109 (r := (1046, .dup, 1)) rfl
theorem dX16_init_1047 : decode cX16_init 1047 = .ok (.bipush 6, 2) := dk_get daX16_init_c2 110 (r := (1047, .bipush 6, 2)) rfl
theorem dX16_init_1049 : decode cX16_init 1049 = .ok (.bipush 7, 2) := dk_get daX16_init_c2 111 (r := (1049, .bipush 7, 2)) rfl
theorem dX16_init_1051 : decode cX16_init 1051 = .ok (.iastore, 1) := dk_get daX16_init_c2 112 (r := (1051, .iastore, 1)) rfl
theorem dX16_init_1052 : decode cX16_init 1052 = .ok (.dup, 1) := dk_get daX16_init_c2 113 (r := (1052, .dup, 1)) rfl
theorem dX16_init_1053 : decode cX16_init 1053 = .ok (.bipush 7, 2) := dk_get daX16_init_c2 114 (r := (1053, .bipush 7, 2)) rfl
theorem dX16_init_1055 : decode cX16_init 1055 = .ok (.bipush 9, 2) := dk_get daX16_init_c2 115 (r := (1055, .bipush 9, 2)) rfl
theorem dX16_init_1057 : decode cX16_init 1057 = .ok (.iastore, 1) := dk_get daX16_init_c2 116 (r := (1057, .iastore, 1)) rfl
theorem dX16_init_1058 : decode cX16_init 1058 = .ok (.dup, 1) := dk_get daX16_init_c2 117 (r := (1058, .dup, 1)) rfl
theorem dX16_init_1059 : decode cX16_init 1059 = .ok (.bipush 8, 2) := dk_get daX16_init_c2 118 (r := (1059, .bipush 8, 2)) rfl
theorem dX16_init_1061 : decode cX16_init 1061 = .ok (.bipush 11, 2) := dk_get daX16_init_c2 119 (r := (1061, .bipush 11, 2)) rfl
theorem dX16_init_1063 : decode cX16_init 1063 = .ok (.iastore, 1) := dk_get daX16_init_c2 120 (r := (1063, .iastore, 1)) rfl
theorem dX16_init_1064 : decode cX16_init 1064 = .ok (.dup, 1) := dk_get daX16_init_c2 121 (r := (1064, .dup, 1)) rfl
theorem dX16_init_1065 : decode cX16_init 1065 = .ok (.bipush 9, 2) := dk_get daX16_init_c2 122 (r := (1065, .bipush 9, 2)) rfl
theorem dX16_init_1067 : decode cX16_init 1067 = .ok (.bipush 13, 2) := dk_get daX16_init_c2 123 (r := (1067, .bipush 13, 2)) rfl
theorem dX16_init_1069 : decode cX16_init 1069 = .ok (.iastore, 1) := dk_get daX16_init_c2 124 (r := (1069, .iastore, 1)) rfl
theorem dX16_init_1070 : decode cX16_init 1070 = .ok (.dup, 1) := dk_get daX16_init_c2 125 (r := (1070, .dup, 1)) rfl
theorem dX16_init_1071 : decode cX16_init 1071 = .ok (.bipush 10, 2) := dk_get daX16_init_c2 126 (r := (1071, .bipush 10, 2)) rfl
theorem dX16_init_1073 : decode cX16_init 1073 = .ok (.bipush 14, 2) := dk_get daX16_init_c2 127 (r := (1073, .bipush 14, 2)) rfl
theorem dX16_init_1075 : decode cX16_init 1075 = .ok (.iastore, 1) := dk_get daX16_init_c2 128 (r := (1075, .iastore, 1)) rfl
theorem dX16_init_1076 : decode cX16_init 1076 = .ok (.dup, 1) := dk_get daX16_init_c2 129 (r := (1076, .dup, 1)) rfl
theorem dX16_init_1077 : decode cX16_init 1077 = .ok (.bipush 11, 2) := dk_get daX16_init_c2 130 (r := (1077, .bipush 11, 2)) rfl
theorem dX16_init_1079 : decode cX16_init 1079 = .ok (.bipush 15, 2) := dk_get daX16_init_c2 131 (r := (1079, .bipush 15, 2)) rfl
theorem dX16_init_1081 : decode cX16_init 1081 = .ok (.iastore, 1) := dk_get daX16_init_c2 132 (r := (1081, .iastore, 1)) rfl
theorem dX16_init_1082 : decode cX16_init 1082 = .ok (.dup, 1) := dk_get daX16_init_c2 133 (r := (1082, .dup, 1)) rfl
theorem dX16_init_1083 : decode cX16_init 1083 = .ok (.bipush 12, 2) := dk_get daX16_init_c2 134 (r := (1083, .bipush 12, 2)) rfl
theorem dX16_init_1085 : decode cX16_init 1085 = .ok (.bipush 6, 2) := dk_get daX16_init_c2 135 (r := (1085, .bipush 6, 2)) rfl
theorem dX16_init_1087 : decode cX16_init 1087 = .ok (.iastore, 1) := dk_get daX16_init_c2 136 (r := (1087, .iastore, 1)) rfl
theorem dX16_init_1088 : decode cX16_init 1088 = .ok (.dup, 1) := dk_get daX16_init_c2 137 (r := (1088, .dup, 1)) rfl
theorem dX16_init_1089 : decode cX16_init 1089 = .ok (.bipush 13, 2) := dk_get daX16_init_c2 138 (r := (1089, .bipush 13, 2)) rfl
theorem dX16_init_1091 : decode cX16_init 1091 = .ok (.bipush 7, 2) := dk_get daX16_init_c2 139 (r := (1091, .bipush 7, 2)) rfl
theorem dX16_init_1093 : decode cX16_init 1093 = .ok (.iastore, 1) := dk_get daX16_init_c2 140 (r := (1093, .iastore, 1)) rfl
theorem dX16_init_1094 : decode cX16_init 1094 = .ok (.dup, 1) := dk_get daX16_init_c2 141 (r := (1094, .dup, 1)) rfl
theorem dX16_init_1095 : decode cX16_init 1095 = .ok (.bipush 14, 2) := dk_get daX16_init_c2 142 (r := (1095, .bipush 14, 2)) rfl
theorem dX16_init_1097 : decode cX16_init 1097 = .ok (.bipush 9, 2) := dk_get daX16_init_c2 143 (r := (1097, .bipush 9, 2)) rfl
theorem dX16_init_1099 : decode cX16_init 1099 = .ok (.iastore, 1) := dk_get daX16_init_c2 144 (r := (1099, .iastore, 1)) rfl
theorem dX16_init_1100 : decode cX16_init 1100 = .ok (.dup, 1) := dk_get daX16_init_c2 145 (r := (1100, .dup, 1)) rfl
theorem dX16_init_1101 : decode cX16_init 1101 = .ok (.bipush 15, 2) := dk_get daX16_init_c2 146 (r := (1101, .bipush 15, 2)) rfl
theorem dX16_init_1103 : decode cX16_init 1103 = .ok (.bipush 8, 2) := dk_get daX16_init_c2 147 (r := (1103, .bipush 8, 2)) rfl
theorem dX16_init_1105 : decode cX16_init 1105 = .ok (.iastore, 1) := dk_get daX16_init_c2 148 (r := (1105, .iastore, 1)) rfl
theorem dX16_init_1106 : decode cX16_init 1106 = .ok (.dup, 1) := dk_get daX16_init_c2 149 (r := (1106, .dup, 1)) rfl
theorem dX16_init_1107 : decode cX16_init 1107 = .ok (.bipush 16, 2) := dk_get daX16_init_c2 150 (r := (1107, .bipush 16, 2)) rfl
theorem dX16_init_1109 : decode cX16_init 1109 = .ok (.bipush 7, 2) := dk_get daX16_init_c2 151 (r := (1109, .bipush 7, 2)) rfl
theorem dX16_init_1111 : decode cX16_init 1111 = .ok (.iastore, 1) := dk_get daX16_init_c2 152 (r := (1111, .iastore, 1)) rfl
theorem dX16_init_1112 : decode cX16_init 1112 = .ok (.dup, 1) := dk_get daX16_init_c2 153 (r := (1112, .dup, 1)) rfl
theorem dX16_init_1113 : decode cX16_init 1113 = .ok (.bipush 17, 2) := dk_get daX16_init_c2 154 (r := (1113, .bipush 17, 2)) rfl
theorem dX16_init_1115 : decode cX16_init 1115 = .ok (.bipush 6, 2) := dk_get daX16_init_c2 155 (r := (1115, .bipush 6, 2)) rfl
theorem dX16_init_1117 : decode cX16_init 1117 = .ok (.iastore, 1) := dk_get daX16_init_c2 156 (r := (1117, .iastore, 1)) rfl
theorem dX16_init_1118 : decode cX16_init 1118 = .ok (.dup, 1) := dk_get daX16_init_c2 157 (r := (1118, .dup, 1)) rfl
theorem dX16_init_1119 : decode cX16_init 1119 = .ok (.bipush 18, 2) := dk_get daX16_init_c2 158 (r := (1119, .bipush 18, 2)) rfl
theorem dX16_init_1121 : decode cX16_init 1121 = .ok (.bipush 8, 2) := dk_get daX16_init_c2 159 (r := (1121, .bipush 8, 2)) rfl
theorem dX16_init_1123 : decode cX16_init 1123 = .ok (.iastore, 1) := dk_get daX16_init_c2 160 (r := (1123, .iastore, 1)) rfl
theorem dX16_init_1124 : decode cX16_init 1124 = .ok (.dup, 1) := dk_get daX16_init_c2 161 (r := (1124, .dup, 1)) rfl
theorem dX16_init_1125 : decode cX16_init 1125 = .ok (.bipush 19, 2) := dk_get daX16_init_c2 162 (r := (1125, .bipush 19, 2)) rfl
theorem dX16_init_1127 : decode cX16_init 1127 = .ok (.bipush 13, 2) := dk_get daX16_init_c2 163 (r := (1127, .bipush 13, 2)) rfl
theorem dX16_init_1129 : decode cX16_init 1129 = .ok (.iastore, 1) := dk_get daX16_init_c2 164 (r := (1129, .iastore, 1)) rfl
theorem dX16_init_1130 : decode cX16_init 1130 = .ok (.dup, 1) := dk_get daX16_init_c2 165 (r := (1130, .dup, 1)) rfl
theorem dX16_init_1131 : decode cX16_init 1131 = .ok (.bipush 20, 2) := dk_get daX16_init_c2 166 (r := (1131, .bipush 20, 2)) rfl
theorem dX16_init_1133 : decode cX16_init 1133 = .ok (.bipush 11, 2) := dk_get daX16_init_c2 167 (r := (1133, .bipush 11, 2)) rfl
theorem dX16_init_1135 : decode cX16_init 1135 = .ok (.iastore, 1) := dk_get daX16_init_c2 168 (r := (1135, .iastore, 1)) rfl
theorem dX16_init_1136 : decode cX16_init 1136 = .ok (.dup, 1) := dk_get daX16_init_c2 169 (r := (1136, .dup, 1)) rfl
theorem dX16_init_1137 : decode cX16_init 1137 = .ok (.bipush 21, 2) := dk_get daX16_init_c2 170 (r := (1137, .bipush 21, 2)) rfl
theorem dX16_init_1139 : decode cX16_init 1139 = .ok (.bipush 9, 2) := dk_get daX16_init_c2 171 (r := (1139, .bipush 9, 2)) rfl
theorem dX16_init_1141 : decode cX16_init 1141 = .ok (.iastore, 1) := dk_get daX16_init_c2 172 (r := (1141, .iastore, 1)) rfl
theorem dX16_init_1142 : decode cX16_init 1142 = .ok (.dup, 1) := dk_get daX16_init_c2 173 (r := (1142, .dup, 1)) rfl
theorem dX16_init_1143 : decode cX16_init 1143 = .ok (.bipush 22, 2) := dk_get daX16_init_c2 174 (r := (1143, .bipush 22, 2)) rfl
theorem dX16_init_1145 : decode cX16_init 1145 = .ok (.bipush 7, 2) := dk_get daX16_init_c2 175 (r := (1145, .bipush 7, 2)) rfl
theorem dX16_init_1147 : decode cX16_init 1147 = .ok (.iastore, 1) := dk_get daX16_init_c2 176 (r := (1147, .iastore, 1)) rfl
theorem dX16_init_1148 : decode cX16_init 1148 = .ok (.dup, 1) := dk_get daX16_init_c2 177 (r := (1148, .dup, 1)) rfl
theorem dX16_init_1149 : decode cX16_init 1149 = .ok (.bipush 23, 2) := dk_get daX16_init_c2 178 (r := (1149, .bipush 23, 2)) rfl
theorem dX16_init_1151 : decode cX16_init 1151 = .ok (.bipush 15, 2) := dk_get daX16_init_c2 179 (r := (1151, .bipush 15, 2)) rfl
theorem dX16_init_1153 : decode cX16_init 1153 = .ok (.iastore, 1) := dk_get daX16_init_c2 180 (r := (1153, .iastore, 1)) rfl
theorem dX16_init_1154 : decode cX16_init 1154 = .ok (.dup, 1) := dk_get daX16_init_c2 181 (r := (1154, .dup, 1)) rfl
theorem dX16_init_1155 : decode cX16_init 1155 = .ok (.bipush 24, 2) := dk_get daX16_init_c2 182 (r := (1155, .bipush 24, 2)) rfl
theorem dX16_init_1157 : decode cX16_init 1157 = .ok (.bipush 7, 2) := dk_get daX16_init_c2 183 (r := (1157, .bipush 7, 2)) rfl
theorem dX16_init_1159 : decode cX16_init 1159 = .ok (.iastore, 1) := dk_get daX16_init_c2 184 (r := (1159, .iastore, 1)) rfl
theorem dX16_init_1160 : decode cX16_init 1160 = .ok (.dup, 1) := dk_get daX16_init_c2 185 (r := (1160, .dup, 1)) rfl
theorem dX16_init_1161 : decode cX16_init 1161 = .ok (.bipush 25, 2) := dk_get daX16_init_c2 186 (r := (1161, .bipush 25, 2)) rfl
theorem dX16_init_1163 : decode cX16_init 1163 = .ok (.bipush 12, 2) := dk_get daX16_init_c2 187 (r := (1163, .bipush 12, 2)) rfl
theorem dX16_init_1165 : decode cX16_init 1165 = .ok (.iastore, 1) := dk_get daX16_init_c2 188 (r := (1165, .iastore, 1)) rfl
theorem dX16_init_1166 : decode cX16_init 1166 = .ok (.dup, 1) := dk_get daX16_init_c2 189 (r := (1166, .dup, 1)) rfl
theorem dX16_init_1167 : decode cX16_init 1167 = .ok (.bipush 26, 2) := dk_get daX16_init_c2 190 (r := (1167, .bipush 26, 2)) rfl
theorem dX16_init_1169 : decode cX16_init 1169 = .ok (.bipush 15, 2) := dk_get daX16_init_c2 191 (r := (1169, .bipush 15, 2)) rfl
theorem dX16_init_1171 : decode cX16_init 1171 = .ok (.iastore, 1) := dk_get daX16_init_c2 192 (r := (1171, .iastore, 1)) rfl
theorem dX16_init_1172 : decode cX16_init 1172 = .ok (.dup, 1) := dk_get daX16_init_c2 193 (r := (1172, .dup, 1)) rfl
theorem dX16_init_1173 : decode cX16_init 1173 = .ok (.bipush 27, 2) := dk_get daX16_init_c2 194 (r := (1173, .bipush 27, 2)) rfl
theorem dX16_init_1175 : decode cX16_init 1175 = .ok (.bipush 9, 2) := dk_get daX16_init_c2 195 (r := (1175, .bipush 9, 2)) rfl
theorem dX16_init_1177 : decode cX16_init 1177 = .ok (.iastore, 1) := dk_get daX16_init_c2 196 (r := (1177, .iastore, 1)) rfl
theorem dX16_init_1178 : decode cX16_init 1178 = .ok (.dup, 1) := dk_get daX16_init_c2 197 (r := (1178, .dup, 1)) rfl
theorem dX16_init_1179 : decode cX16_init 1179 = .ok (.bipush 28, 2) := dk_get daX16_init_c2 198 (r := (1179, .bipush 28, 2)) rfl
theorem dX16_init_1181 : decode cX16_init 1181 = .ok (.bipush 11, 2) := dk_get daX16_init_c2 199 (r := (1181, .bipush 11, 2)) rfl
theorem dX16_init_1183 : decode cX16_init 1183 = .ok (.iastore, 1) := dk_get daX16_init_c2 200 (r := (1183, .iastore, 1)) rfl
theorem dX16_init_1184 : decode cX16_init 1184 = .ok (.dup, 1) := dk_get daX16_init_c2 201 (r := (1184, .dup, 1)) rfl
theorem dX16_init_1185 : decode cX16_init 1185 = .ok (.bipush 29, 2) := dk_get daX16_init_c2 202 (r := (1185, .bipush 29, 2)) rfl
theorem dX16_init_1187 : decode cX16_init 1187 = .ok (.bipush 7, 2) := dk_get daX16_init_c2 203 (r := (1187, .bipush 7, 2)) rfl
theorem dX16_init_1189 : decode cX16_init 1189 = .ok (.iastore, 1) := dk_get daX16_init_c2 204 (r := (1189, .iastore, 1)) rfl
theorem dX16_init_1190 : decode cX16_init 1190 = .ok (.dup, 1) := dk_get daX16_init_c2 205 (r := (1190, .dup, 1)) rfl
theorem dX16_init_1191 : decode cX16_init 1191 = .ok (.bipush 30, 2) := dk_get daX16_init_c2 206 (r := (1191, .bipush 30, 2)) rfl
theorem dX16_init_1193 : decode cX16_init 1193 = .ok (.bipush 13, 2) := dk_get daX16_init_c2 207 (r := (1193, .bipush 13, 2)) rfl
theorem dX16_init_1195 : decode cX16_init 1195 = .ok (.iastore, 1) := dk_get daX16_init_c2 208 (r := (1195, .iastore, 1)) rfl
theorem dX16_init_1196 : decode cX16_init 1196 = .ok (.dup, 1) := dk_get daX16_init_c2 209 (r := (1196, .dup, 1)) rfl
theorem dX16_init_1197 : decode cX16_init 1197 = .ok (.bipush 31, 2) := dk_get daX16_init_c2 210 (r := (1197, .bipush 31, 2)) rfl
theorem dX16_init_1199 : decode cX16_init 1199 = .ok (.bipush 12, 2) := dk_get daX16_init_c2 211 (r := (1199, .bipush 12, 2)) rfl
theorem dX16_init_1201 : decode cX16_init 1201 = .ok (.iastore, 1) := dk_get daX16_init_c2 212 (r := (1201, .iastore, 1)) rfl
theorem dX16_init_1202 : decode cX16_init 1202 = .ok (.dup, 1) := dk_get daX16_init_c2 213 (r := (1202, .dup, 1)) rfl
theorem dX16_init_1203 : decode cX16_init 1203 = .ok (.bipush 32, 2) := dk_get daX16_init_c2 214 (r := (1203, .bipush 32, 2)) rfl
theorem dX16_init_1205 : decode cX16_init 1205 = .ok (.bipush 11, 2) := dk_get daX16_init_c2 215 (r := (1205, .bipush 11, 2)) rfl
theorem dX16_init_1207 : decode cX16_init 1207 = .ok (.iastore, 1) := dk_get daX16_init_c2 216 (r := (1207, .iastore, 1)) rfl
theorem dX16_init_1208 : decode cX16_init 1208 = .ok (.dup, 1) := dk_get daX16_init_c2 217 (r := (1208, .dup, 1)) rfl
theorem dX16_init_1209 : decode cX16_init 1209 = .ok (.bipush 33, 2) := dk_get daX16_init_c2 218 (r := (1209, .bipush 33, 2)) rfl
theorem dX16_init_1211 : decode cX16_init 1211 = .ok (.bipush 13, 2) := dk_get daX16_init_c2 219 (r := (1211, .bipush 13, 2)) rfl
theorem dX16_init_1213 : decode cX16_init 1213 = .ok (.iastore, 1) := dk_get daX16_init_c2 220 (r := (1213, .iastore, 1)) rfl
theorem dX16_init_1214 : decode cX16_init 1214 = .ok (.dup, 1) := dk_get daX16_init_c2 221 (r := (1214, .dup, 1)) rfl
theorem dX16_init_1215 : decode cX16_init 1215 = .ok (.bipush 34, 2) := dk_get daX16_init_c2 222 (r := (1215, .bipush 34, 2)) rfl
theorem dX16_init_1217 : decode cX16_init 1217 = .ok (.bipush 6, 2) := dk_get daX16_init_c2 223 (r := (1217, .bipush 6, 2)) rfl
theorem dX16_init_1219 : decode cX16_init 1219 = .ok (.iastore, 1) := dk_get daX16_init_c2 224 (r := (1219, .iastore, 1)) rfl
theorem dX16_init_1220 : decode cX16_init 1220 = .ok (.dup, 1) := dk_get daX16_init_c2 225 (r := (1220, .dup, 1)) rfl
theorem dX16_init_1221 : decode cX16_init 1221 = .ok (.bipush 35, 2) := dk_get daX16_init_c2 226 (r := (1221, .bipush 35, 2)) rfl
theorem dX16_init_1223 : decode cX16_init 1223 = .ok (.bipush 7, 2) := dk_get daX16_init_c2 227 (r := (1223, .bipush 7, 2)) rfl
theorem dX16_init_1225 : decode cX16_init 1225 = .ok (.iastore, 1) := dk_get daX16_init_c2 228 (r := (1225, .iastore, 1)) rfl
theorem dX16_init_1226 : decode cX16_init 1226 = .ok (.dup, 1) := dk_get daX16_init_c2 229 (r := (1226, .dup, 1)) rfl
theorem dX16_init_1227 : decode cX16_init 1227 = .ok (.bipush 36, 2) := dk_get daX16_init_c2 230 (r := (1227, .bipush 36, 2)) rfl
theorem dX16_init_1229 : decode cX16_init 1229 = .ok (.bipush 14, 2) := dk_get daX16_init_c2 231 (r := (1229, .bipush 14, 2)) rfl
theorem dX16_init_1231 : decode cX16_init 1231 = .ok (.iastore, 1) := dk_get daX16_init_c2 232 (r := (1231, .iastore, 1)) rfl
theorem dX16_init_1232 : decode cX16_init 1232 = .ok (.dup, 1) := dk_get daX16_init_c2 233 (r := (1232, .dup, 1)) rfl
theorem dX16_init_1233 : decode cX16_init 1233 = .ok (.bipush 37, 2) := dk_get daX16_init_c2 234 (r := (1233, .bipush 37, 2)) rfl
theorem dX16_init_1235 : decode cX16_init 1235 = .ok (.bipush 9, 2) := dk_get daX16_init_c2 235 (r := (1235, .bipush 9, 2)) rfl
theorem dX16_init_1237 : decode cX16_init 1237 = .ok (.iastore, 1) := dk_get daX16_init_c2 236 (r := (1237, .iastore, 1)) rfl
theorem dX16_init_1238 : decode cX16_init 1238 = .ok (.dup, 1) := dk_get daX16_init_c2 237 (r := (1238, .dup, 1)) rfl
theorem dX16_init_1239 : decode cX16_init 1239 = .ok (.bipush 38, 2) := dk_get daX16_init_c2 238 (r := (1239, .bipush 38, 2)) rfl
theorem dX16_init_1241 : decode cX16_init 1241 = .ok (.bipush 13, 2) := dk_get daX16_init_c2 239 (r := (1241, .bipush 13, 2)) rfl
theorem dX16_init_1243 : decode cX16_init 1243 = .ok (.iastore, 1) := dk_get daX16_init_c2 240 (r := (1243, .iastore, 1)) rfl
theorem dX16_init_1244 : decode cX16_init 1244 = .ok (.dup, 1) := dk_get daX16_init_c2 241 (r := (1244, .dup, 1)) rfl
theorem dX16_init_1245 : decode cX16_init 1245 = .ok (.bipush 39, 2) := dk_get daX16_init_c2 242 (r := (1245, .bipush 39, 2)) rfl
theorem dX16_init_1247 : decode cX16_init 1247 = .ok (.bipush 15, 2) := dk_get daX16_init_c2 243 (r := (1247, .bipush 15, 2)) rfl
theorem dX16_init_1249 : decode cX16_init 1249 = .ok (.iastore, 1) := dk_get daX16_init_c2 244 (r := (1249, .iastore, 1)) rfl
theorem dX16_init_1250 : decode cX16_init 1250 = .ok (.dup, 1) := dk_get daX16_init_c2 245 (r := (1250, .dup, 1)) rfl
theorem dX16_init_1251 : decode cX16_init 1251 = .ok (.bipush 40, 2) := dk_get daX16_init_c2 246 (r := (1251, .bipush 40, 2)) rfl
theorem dX16_init_1253 : decode cX16_init 1253 = .ok (.bipush 14, 2) := dk_get daX16_init_c2 247 (r := (1253, .bipush 14, 2)) rfl
theorem dX16_init_1255 : decode cX16_init 1255 = .ok (.iastore, 1) := dk_get daX16_init_c2 248 (r := (1255, .iastore, 1)) rfl
theorem dX16_init_1256 : decode cX16_init 1256 = .ok (.dup, 1) := dk_get daX16_init_c2 249 (r := (1256, .dup, 1)) rfl
theorem dX16_init_1257 : decode cX16_init 1257 = .ok (.bipush 41, 2) := dk_get daX16_init_c2 250 (r := (1257, .bipush 41, 2)) rfl
theorem dX16_init_1259 : decode cX16_init 1259 = .ok (.bipush 8, 2) := dk_get daX16_init_c2 251 (r := (1259, .bipush 8, 2)) rfl
theorem dX16_init_1261 : decode cX16_init 1261 = .ok (.iastore, 1) := dk_get daX16_init_c2 252 (r := (1261, .iastore, 1)) rfl
theorem dX16_init_1262 : decode cX16_init 1262 = .ok (.dup, 1) := dk_get daX16_init_c2 253 (r := (1262, .dup, 1)) rfl
theorem dX16_init_1263 : decode cX16_init 1263 = .ok (.bipush 42, 2) := dk_get daX16_init_c2 254 (r := (1263, .bipush 42, 2)) rfl
theorem dX16_init_1265 : decode cX16_init 1265 = .ok (.bipush 13, 2) := dk_get daX16_init_c2 255 (r := (1265, .bipush 13, 2)) rfl
theorem dX16_init_1267 : decode cX16_init 1267 = .ok (.iastore, 1) := dk_get daX16_init_c2 256 (r := (1267, .iastore, 1)) rfl
theorem dX16_init_1268 : decode cX16_init 1268 = .ok (.dup, 1) := dk_get daX16_init_c2 257 (r := (1268, .dup, 1)) rfl
theorem dX16_init_1269 : decode cX16_init 1269 = .ok (.bipush 43, 2) := dk_get daX16_init_c2 258 (r := (1269, .bipush 43, 2)) rfl
theorem dX16_init_1271 : decode cX16_init 1271 = .ok (.bipush 6, 2) := dk_get daX16_init_c2 259 (r := (1271, .bipush 6, 2)) rfl
theorem dX16_init_1273 : decode cX16_init 1273 = .ok (.iastore, 1) := dk_get daX16_init_c2 260 (r := (1273, .iastore, 1)) rfl
theorem dX16_init_1274 : decode cX16_init 1274 = .ok (.dup, 1) := dk_get daX16_init_c2 261 (r := (1274, .dup, 1)) rfl
theorem dX16_init_1275 : decode cX16_init 1275 = .ok (.bipush 44, 2) := dk_get daX16_init_c2 262 (r := (1275, .bipush 44, 2)) rfl
theorem dX16_init_1277 : decode cX16_init 1277 = .ok (.iconst 5, 1) := dk_get daX16_init_c2 263 (r := (1277, .iconst 5, 1)) rfl
theorem dX16_init_1278 : decode cX16_init 1278 = .ok (.iastore, 1) := dk_get daX16_init_c2 264 (r := (1278, .iastore, 1)) rfl
theorem dX16_init_1279 : decode cX16_init 1279 = .ok (.dup, 1) := dk_get daX16_init_c2 265 (r := (1279, .dup, 1)) rfl
theorem dX16_init_1280 : decode cX16_init 1280 = .ok (.bipush 45, 2) := dk_get daX16_init_c2 266 (r := (1280, .bipush 45, 2)) rfl
theorem dX16_init_1282 : decode cX16_init 1282 = .ok (.bipush 12, 2) := dk_get daX16_init_c2 267 (r := (1282, .bipush 12, 2)) rfl
theorem dX16_init_1284 : decode cX16_init 1284 = .ok (.iastore, 1) := dk_get daX16_init_c2 268 (r := (1284, .iastore, 1)) rfl
theorem dX16_init_1285 : decode cX16_init 1285 = .ok (.dup, 1) := dk_get daX16_init_c2 269 (r := (1285, .dup, 1)) rfl
theorem dX16_init_1286 : decode cX16_init 1286 = .ok (.bipush 46, 2) := dk_get daX16_init_c2 270 (r := (1286, .bipush 46, 2)) rfl
theorem dX16_init_1288 : decode cX16_init 1288 = .ok (.bipush 7, 2) := dk_get daX16_init_c2 271 (r := (1288, .bipush 7, 2)) rfl
theorem dX16_init_1290 : decode cX16_init 1290 = .ok (.iastore, 1) := dk_get daX16_init_c2 272 (r := (1290, .iastore, 1)) rfl
theorem dX16_init_1291 : decode cX16_init 1291 = .ok (.dup, 1) := dk_get daX16_init_c2 273 (r := (1291, .dup, 1)) rfl
theorem dX16_init_1292 : decode cX16_init 1292 = .ok (.bipush 47, 2) := dk_get daX16_init_c2 274 (r := (1292, .bipush 47, 2)) rfl
theorem dX16_init_1294 : decode cX16_init 1294 = .ok (.iconst 5, 1) := dk_get daX16_init_c2 275 (r := (1294, .iconst 5, 1)) rfl
theorem dX16_init_1295 : decode cX16_init 1295 = .ok (.iastore, 1) := dk_get daX16_init_c2 276 (r := (1295, .iastore, 1)) rfl
theorem dX16_init_1296 : decode cX16_init 1296 = .ok (.dup, 1) := dk_get daX16_init_c2 277 (r := (1296, .dup, 1)) rfl
theorem dX16_init_1297 : decode cX16_init 1297 = .ok (.bipush 48, 2) := dk_get daX16_init_c2 278 (r := (1297, .bipush 48, 2)) rfl
theorem dX16_init_1299 : decode cX16_init 1299 = .ok (.bipush 11, 2) := dk_get daX16_init_c2 279 (r := (1299, .bipush 11, 2)) rfl
theorem dX16_init_1301 : decode cX16_init 1301 = .ok (.iastore, 1) := dk_get daX16_init_c2 280 (r := (1301, .iastore, 1)) rfl
theorem dX16_init_1302 : decode cX16_init 1302 = .ok (.dup, 1) := dk_get daX16_init_c2 281 (r := (1302, .dup, 1)) rfl
theorem dX16_init_1303 : decode cX16_init 1303 = .ok (.bipush 49, 2) := dk_get daX16_init_c2 282 (r := (1303, .bipush 49, 2)) rfl
theorem dX16_init_1305 : decode cX16_init 1305 = .ok (.bipush 12, 2) := dk_get daX16_init_c2 283 (r := (1305, .bipush 12, 2)) rfl
theorem dX16_init_1307 : decode cX16_init 1307 = .ok (.iastore, 1) := dk_get daX16_init_c2 284 (r := (1307, .iastore, 1)) rfl
theorem dX16_init_1308 : decode cX16_init 1308 = .ok (.dup, 1) := dk_get daX16_init_c2 285 (r := (1308, .dup, 1)) rfl
theorem dX16_init_1309 : decode cX16_init 1309 = .ok (.bipush 50, 2) := dk_get daX16_init_c2 286 (r := (1309, .bipush 50, 2)) rfl
theorem dX16_init_1311 : decode cX16_init 1311 = .ok (.bipush 14, 2) := dk_get daX16_init_c2 287 (r := (1311, .bipush 14, 2)) rfl
theorem dX16_init_1313 : decode cX16_init 1313 = .ok (.iastore, 1) := dk_get daX16_init_c2 288 (r := (1313, .iastore, 1)) rfl
theorem dX16_init_1314 : decode cX16_init 1314 = .ok (.dup, 1) := dk_get daX16_init_c2 289 (r := (1314, .dup, 1)) rfl
theorem dX16_init_1315 : decode cX16_init 1315 = .ok (.bipush 51, 2) := dk_get daX16_init_c2 290 (r := (1315, .bipush 51, 2)) rfl
theorem dX16_init_1317 : decode cX16_init 1317 = .ok (.bipush 15, 2) := dk_get daX16_init_c2 291 (r := (1317, .bipush 15, 2)) rfl
theorem dX16_init_1319 : decode cX16_init 1319 = .ok (.iastore, 1) := dk_get daX16_init_c2 292 (r := (1319, .iastore, 1)) rfl
theorem dX16_init_1320 : decode cX16_init 1320 = .ok (.dup, 1) := dk_get daX16_init_c2 293 (r := (1320, .dup, 1)) rfl
theorem dX16_init_1321 : decode cX16_init 1321 = .ok (.bipush 52, 2) := dk_get daX16_init_c2 294 (r := (1321, .bipush 52, 2)) rfl
theorem dX16_init_1323 : decode cX16_init 1323 = .ok (.bipush 14, 2) := dk_get daX16_init_c2 295 (r := (1323, .bipush 14, 2)) rfl
theorem dX16_init_1325 : decode cX16_init 1325 = .ok (.iastore, 1) := dk_get daX16_init_c2 296 (r := (1325, .iastore, 1)) rfl
theorem dX16_init_1326 : decode cX16_init 1326 = .ok (.dup, 1) := dk_get daX16_init_c2 297 (r := (1326, .dup, 1)) rfl
theorem dX16_init_1327 : decode cX16_init 1327 = .ok (.bipush 53, 2) := dk_get daX16_init_c2 298 (r := (1327, .bipush 53, 2)) rfl
theorem dX16_init_1329 : decode cX16_init 1329 = .ok (.bipush 15, 2) := dk_get daX16_init_c2 299 (r := (1329, .bipush 15, 2)) rfl
def drX16_init_c3 : List (Nat × Instr × Nat) := [(1331, .iastore, 1), (1332, .dup, 1), (1333, .bipush 54, 2), (1335, .bipush 9, 2), (1337, .iastore, 1), (1338, .dup, 1), (1339, .bipush 55, 2), (1341, .bipush 8, 2), (1343, .iastore, 1), (1344, .dup, 1), (1345, .bipush 56, 2), (1347, .bipush 9, 2), (1349, .iastore, 1), (1350, .dup, 1), (1351, .bipush 57, 2), (1353, .bipush 14, 2), (1355, .iastore, 1), (1356, .dup, 1), (1357, .bipush 58, 2), (1359, .iconst 5, 1), (1360, .iastore, 1), (1361, .dup, 1), (1362, .bipush 59, 2), (1364, .bipush 6, 2), (1366, .iastore, 1), (1367, .dup, 1), (1368, .bipush 60, 2), (1370, .bipush 8, 2), (1372, .iastore, 1), (1373, .dup, 1), (1374, .bipush 61, 2), (1376, .bipush 6, 2), (1378, .iastore, 1), (1379, .dup, 1), (1380, .bipush 62, 2), (1382, .iconst 5, 1), (1383, .iastore, 1), (1384, .dup, 1), (1385, .bipush 63, 2), (1387, .bipush 12, 2), (1389, .iastore, 1), (1390, .dup, 1), (1391, .bipush 64, 2), (1393, .bipush 9, 2), (1395, .iastore, 1), (1396, .dup, 1), (1397, .bipush 65, 2), (1399, .bipush 15, 2), (1401, .iastore, 1), (1402, .dup, 1), (1403, .bipush 66, 2), (1405, .iconst 5, 1), (1406, .iastore, 1), (1407, .dup, 1), (1408, .bipush 67, 2), (1410, .bipush 11, 2), (1412, .iastore, 1), (1413, .dup, 1), (1414, .bipush 68, 2), (1416, .bipush 6, 2), (1418, .iastore, 1), (1419, .dup, 1), (1420, .bipush 69, 2), (1422, .bipush 8, 2), (1424, .iastore, 1), (1425, .dup, 1), (1426, .bipush 70, 2), (1428, .bipush 13, 2), (1430, .iastore, 1), (1431, .dup, 1), (1432, .bipush 71, 2), (1434, .bipush 12, 2), (1436, .iastore, 1), (1437, .dup, 1), (1438, .bipush 72, 2), (1440, .iconst 5, 1), (1441, .iastore, 1), (1442, .dup, 1), (1443, .bipush 73, 2), (1445, .bipush 12, 2), (1447, .iastore, 1), (1448, .dup, 1), (1449, .bipush 74, 2), (1451, .bipush 13, 2), (1453, .iastore, 1), (1454, .dup, 1), (1455, .bipush 75, 2), (1457, .bipush 14, 2), (1459, .iastore, 1), (1460, .dup, 1), (1461, .bipush 76, 2), (1463, .bipush 11, 2), (1465, .iastore, 1), (1466, .dup, 1), (1467, .bipush 77, 2), (1469, .bipush 8, 2), (1471, .iastore, 1), (1472, .dup, 1), (1473, .bipush 78, 2), (1475, .iconst 5, 1), (1476, .iastore, 1), (1477, .dup, 1), (1478, .bipush 79, 2), (1480, .bipush 6, 2), (1482, .iastore, 1), (1483, .dup, 1), (1484, .bipush 80, 2), (1486, .bipush 8, 2), (1488, .iastore, 1), (1489, .dup, 1), (1490, .bipush 81, 2), (1492, .bipush 9, 2), (1494, .iastore, 1), (1495, .dup, 1), (1496, .bipush 82, 2), (1498, .bipush 9, 2), (1500, .iastore, 1), (1501, .dup, 1), (1502, .bipush 83, 2), (1504, .bipush 11, 2), (1506, .iastore, 1), (1507, .dup, 1), (1508, .bipush 84, 2), (1510, .bipush 13, 2), (1512, .iastore, 1), (1513, .dup, 1), (1514, .bipush 85, 2), (1516, .bipush 15, 2), (1518, .iastore, 1), (1519, .dup, 1), (1520, .bipush 86, 2), (1522, .bipush 15, 2), (1524, .iastore, 1), (1525, .dup, 1), (1526, .bipush 87, 2), (1528, .iconst 5, 1), (1529, .iastore, 1), (1530, .dup, 1), (1531, .bipush 88, 2), (1533, .bipush 7, 2), (1535, .iastore, 1), (1536, .dup, 1), (1537, .bipush 89, 2), (1539, .bipush 7, 2), (1541, .iastore, 1), (1542, .dup, 1), (1543, .bipush 90, 2), (1545, .bipush 8, 2), (1547, .iastore, 1), (1548, .dup, 1), (1549, .bipush 91, 2), (1551, .bipush 11, 2), (1553, .iastore, 1), (1554, .dup, 1), (1555, .bipush 92, 2), (1557, .bipush 14, 2), (1559, .iastore, 1), (1560, .dup, 1), (1561, .bipush 93, 2), (1563, .bipush 14, 2), (1565, .iastore, 1), (1566, .dup, 1), (1567, .bipush 94, 2), (1569, .bipush 12, 2), (1571, .iastore, 1), (1572, .dup, 1), (1573, .bipush 95, 2), (1575, .bipush 6, 2), (1577, .iastore, 1), (1578, .dup, 1), (1579, .bipush 96, 2), (1581, .bipush 9, 2), (1583, .iastore, 1), (1584, .dup, 1), (1585, .bipush 97, 2), (1587, .bipush 13, 2), (1589, .iastore, 1), (1590, .dup, 1), (1591, .bipush 98, 2), (1593, .bipush 15, 2), (1595, .iastore, 1), (1596, .dup, 1), (1597, .bipush 99, 2), (1599, .bipush 7, 2), (1601, .iastore, 1), (1602, .dup, 1), (1603, .bipush 100, 2), (1605, .bipush 12, 2), (1607, .iastore, 1), (1608, .dup, 1), (1609, .bipush 101, 2), (1611, .bipush 8, 2), (1613, .iastore, 1), (1614, .dup, 1), (1615, .bipush 102, 2), (1617, .bipush 9, 2), (1619, .iastore, 1), (1620, .dup, 1), (1621, .bipush 103, 2), (1623, .bipush 11, 2), (1625, .iastore, 1), (1626, .dup, 1), (1627, .bipush 104, 2), (1629, .bipush 7, 2), (1631, .iastore, 1), (1632, .dup, 1), (1633, .bipush 105, 2), (1635, .bipush 7, 2), (1637, .iastore, 1), (1638, .dup, 1), (1639, .bipush 106, 2), (1641, .bipush 12, 2), (1643, .iastore, 1), (1644, .dup, 1), (1645, .bipush 107, 2), (1647, .bipush 7, 2), (1649, .iastore, 1), (1650, .dup, 1), (1651, .bipush 108, 2), (1653, .bipush 6, 2), (1655, .iastore, 1), (1656, .dup, 1), (1657, .bipush 109, 2), (1659, .bipush 15, 2), (1661, .iastore, 1), (1662, .dup, 1), (1663, .bipush 110, 2), (1665, .bipush 13, 2), (1667, .iastore, 1), (1668, .dup, 1), (1669, .bipush 111, 2), (1671, .bipush 11, 2), (1673, .iastore, 1), (1674, .dup, 1), (1675, .bipush 112, 2), (1677, .bipush 9, 2), (1679, .iastore, 1), (1680, .dup, 1), (1681, .bipush 113, 2), (1683, .bipush 7, 2), (1685, .iastore, 1), (1686, .dup, 1), (1687, .bipush 114, 2), (1689, .bipush 15, 2), (1691, .iastore, 1), (1692, .dup, 1), (1693, .bipush 115, 2), (1695, .bipush 11, 2), (1697, .iastore, 1), (1698, .dup, 1), (1699, .bipush 116, 2), (1701, .bipush 8, 2), (1703, .iastore, 1), (1704, .dup, 1), (1705, .bipush 117, 2), (1707, .bipush 6, 2), (1709, .iastore, 1), (1710, .dup, 1), (1711, .bipush 118, 2), (1713, .bipush 6, 2), (1715, .iastore, 1), (1716, .dup, 1), (1717, .bipush 119, 2), (1719, .bipush 14, 2), (1721, .iastore, 1), (1722, .dup, 1), (1723, .bipush 120, 2), (1725, .bipush 12, 2), (1727, .iastore, 1), (1728, .dup, 1), (1729, .bipush 121, 2), (1731, .bipush 13, 2), (1733, .iastore, 1), (1734, .dup, 1), (1735, .bipush 122, 2), (1737, .iconst 5, 1), (1738, .iastore, 1), (1739, .dup, 1), (1740, .bipush 123, 2), (1742, .bipush 14, 2), (1744, .iastore, 1), (1745, .dup, 1), (1746, .bipush 124, 2), (1748, .bipush 13, 2), (1750, .iastore, 1), (1751, .dup, 1), (1752, .bipush 125, 2), (1754, .bipush 13, 2), (1756, .iastore, 1), (1757, .dup, 1), (1758, .bipush 126, 2), (1760, .bipush 7, 2), (1762, .iastore, 1), (1763, .dup, 1), (1764, .bipush 127, 2), (1766, .iconst 5, 1), (1767, .iastore, 1), (1768, .dup, 1), (1769, .sipush 128, 3), (1772, .bipush 15, 2)]
set_option maxRecDepth 100000 in
theorem daX16_init_c3 : dk_all cX16_init drX16_init_c3 = true := by decide +kernel
theorem dX16_init_1331 : decode cX16_init 1331 = .ok (.iastore, 1) := dk_get daX16_init_c3 0 (r := (1331, .iastore, 1)) rfl
theorem dX16_init_1332 : decode cX16_init 1332 = .ok (.dup, 1) := dk_get daX16_init_c3 1 (r := (1332, .dup, 1)) rfl
theorem dX16_init_1333 : decode cX16_init 1333 = .ok (.bipush 54, 2) := dk_get daX16_init_c3 2 (r := (1333, .bipush 54, 2)) rfl
theorem dX16_init_1335 : decode cX16_init 1335 = .ok (.bipush 9, 2) := dk_get daX16_init_c3 3 (r := (1335, .bipush 9, 2)) rfl
theorem dX16_init_1337 : decode cX16_init 1337 = .ok (.iastore, 1) := dk_get daX16_init_c3 4 (r := (1337, .iastore, 1)) rfl
theorem dX16_init_1338 : decode cX16_init 1338 = .ok (.dup, 1) := dk_get daX16_init_c3 5 (r := (1338, .dup, 1)) rfl
theorem dX16_init_1339 : decode cX16_init 1339 = .ok (.bipush 55, 2) := dk_get daX16_init_c3 6 (r := (1339, .bipush 55, 2)) rfl
theorem dX16_init_1341 : decode cX16_init 1341 = .ok (.bipush 8, 2) := dk_get daX16_init_c3 7 (r := (1341, .bipush 8, 2)) rfl
theorem dX16_init_1343 : decode cX16_init 1343 = .ok (.iastore, 1) := dk_get daX16_init_c3 8 (r := (1343, .iastore, 1)) rfl
theorem dX16_init_1344 : decode cX16_init 1344 = .ok (.dup, 1) := dk_get daX16_init_c3 9 (r := (1344, .dup, 1)) rfl
theorem dX16_init_1345 : decode cX16_init 1345 = .ok (.bipush 56, 2) := dk_get daX16_init_c3 10 (r := (1345, .bipush 56, 2)) rfl
theorem dX16_init_1347 : decode cX16_init 1347 = .ok (.bipush 9, 2) := dk_get daX16_init_c3 11 (r := (1347, .bipush 9, 2)) rfl
theorem dX16_init_1349 : decode cX16_init 1349 = .ok (.iastore, 1) := dk_get daX16_init_c3 12 (r := (1349, .iastore, 1)) rfl
theorem dX16_init_1350 : decode cX16_init 1350 = .ok (.dup, 1) := dk_get daX16_init_c3 13 (r := (1350, .dup, 1)) rfl
theorem dX16_init_1351 : decode cX16_init 1351 = .ok (.bipush 57, 2) := dk_get daX16_init_c3 14 (r := (1351, .bipush 57, 2)) rfl
theorem dX16_init_1353 : decode cX16_init 1353 = .ok (.bipush 14, 2) := dk_get daX16_init_c3 15 (r := (1353, .bipush 14, 2)) rfl
theorem dX16_init_1355 : decode cX16_init 1355 = .ok (.iastore, 1) := dk_get daX16_init_c3 16 (r := (1355, .iastore, 1)) rfl
theorem dX16_init_1356 : decode cX16_init 1356 = .ok (.dup, 1) := dk_get daX16_init_c3 17 (r := (1356, .dup, 1)) rfl
theorem dX16_init_1357 : decode cX16_init 1357 = .ok (.bipush 58, 2) := dk_get daX16_init_c3 18 (r := (1357, .bipush 58, 2)) rfl
theorem dX16_init_1359 : decode cX16_init 1359 = .ok (.iconst 5, 1) := dk_get daX16_init_c3 19 (r := (1359, .iconst 5, 1)) rfl
theorem dX16_init_1360 : decode cX16_init 1360 = .ok (.iastore, 1) := dk_get daX16_init_c3 20 (r := (1360, .iastore, 1)) rfl
theorem dX16_init_1361 : decode cX16_init 1361 = .ok (.dup, 1) := dk_get daX16_init_c3 21 (r := (1361, .dup, 1)) rfl
theorem dX16_init_1362 : decode cX16_init 1362 = .ok (.bipush 59, 2) := dk_get daX16_init_c3 22 (r := (1362, .bipush 59, 2)) rfl
theorem dX16_init_1364 : decode cX16_init 1364 = .ok (.bipush 6, 2) := dk_get daX16_init_c3 23 (r := (1364, .bipush 6, 2)) rfl
theorem dX16_init_1366 : decode cX16_init 1366 = .ok (.iastore, 1) := dk_get daX16_init_c3 24 (r := (1366, .iastore, 1)) rfl
theorem dX16_init_1367 : decode cX16_init 1367 = .ok (.dup, 1) := dk_get daX16_init_c3 25 (r := (1367, .dup, 1)) rfl
theorem dX16_init_1368 : decode cX16_init 1368 = .ok (.bipush 60, 2) := dk_get daX16_init_c3 26 (r := (1368, .bipush 60, 2)) rfl
theorem dX16_init_1370 : decode cX16_init 1370 = .ok (.bipush 8, 2) := dk_get daX16_init_c3 27 (r := (1370, .bipush 8, 2)) rfl
theorem dX16_init_1372 : decode cX16_init 1372 = .ok (.iastore, 1) := dk_get daX16_init_c3 28 (r := (1372, .iastore, 1)) rfl
theorem dX16_init_1373 : decode cX16_init 1373 = .ok (.dup, 1) := dk_get daX16_init_c3 29 (r := (1373, .dup, 1)) rfl
theorem dX16_init_1374 : decode cX16_init 1374 = .ok (.bipush 61, 2) := dk_get daX16_init_c3 30 (r := (1374, .bipush 61, 2)) rfl
theorem dX16_init_1376 : decode cX16_init 1376 = .ok (.bipush 6, 2) := dk_get daX16_init_c3 31 (r := (1376, .bipush 6, 2)) rfl
theorem dX16_init_1378 : decode cX16_init 1378 = .ok (.iastore, 1) := dk_get daX16_init_c3 32 (r := (1378, .iastore, 1)) rfl
theorem dX16_init_1379 : decode cX16_init 1379 = .ok (.dup, 1) := dk_get daX16_init_c3 33 (r := (1379, .dup, 1)) rfl
theorem dX16_init_1380 : decode cX16_init 1380 = .ok (.bipush 62, 2) := dk_get daX16_init_c3 34 (r := (1380, .bipush 62, 2)) rfl
theorem dX16_init_1382 : decode cX16_init 1382 = .ok (.iconst 5, 1) := dk_get daX16_init_c3 35 (r := (1382, .iconst 5, 1)) rfl
theorem dX16_init_1383 : decode cX16_init 1383 = .ok (.iastore, 1) := dk_get daX16_init_c3 36 (r := (1383, .iastore, 1)) rfl
theorem dX16_init_1384 : decode cX16_init 1384 = .ok (.dup, 1) := dk_get daX16_init_c3 37 (r := (1384, .dup, 1)) rfl
theorem dX16_init_1385 : decode cX16_init 1385 = .ok (.bipush 63, 2) := dk_get daX16_init_c3 38 (r := (1385, .bipush 63, 2)) rfl
theorem dX16_init_1387 : decode cX16_init 1387 = .ok (.bipush 12, 2) := dk_get daX16_init_c3 39 (r := (1387, .bipush 12, 2)) rfl
theorem dX16_init_1389 : decode cX16_init 1389 = .ok (.iastore, 1) := dk_get daX16_init_c3 40 (r := (1389, .iastore, 1)) rfl
theorem dX16_init_1390 : decode cX16_init 1390 = .ok (.dup, 1) := dk_get daX16_init_c3 41 (r := (1390, .dup, 1)) rfl
theorem dX16_init_1391 : decode cX16_init 1391 = .ok (.bipush 64, 2) := dk_get daX16_init_c3 42 (r := (1391, .bipush 64, 2)) rfl
theorem dX16_init_1393 : decode cX16_init 1393 = .ok (.bipush 9, 2) := dk_get daX16_init_c3 43 (r := (1393, .bipush 9, 2)) rfl
theorem dX16_init_1395 : decode cX16_init 1395 = .ok (.iastore, 1) := dk_get daX16_init_c3 44 (r := (1395, .iastore, 1)) rfl
theorem dX16_init_1396 : decode cX16_init 1396 = .ok (.dup, 1) := dk_get daX16_init_c3 45 (r := (1396, .dup, 1)) rfl
theorem dX16_init_1397 : decode cX16_init 1397 = .ok (.bipush 65, 2) := dk_get daX16_init_c3 46 (r := (1397, .bipush 65, 2)) rfl
theorem dX16_init_1399 : decode cX16_init 1399 = .ok (.bipush 15, 2) := dk_get daX16_init_c3 47 (r := (1399, .bipush 15, 2)) rfl
theorem dX16_init_1401 : decode cX16_init 1401 = .ok (.iastore, 1) := dk_get daX16_init_c3 48 (r := (1401, .iastore, 1)) rfl
theorem dX16_init_1402 : decode cX16_init 1402 = .ok (.dup, 1) := dk_get daX16_init_c3 49 (r := (1402, .dup, 1)) rfl
theorem dX16_init_1403 : decode cX16_init 1403 = .ok (.bipush 66, 2) := dk_get daX16_init_c3 50 (r := (1403, .bipush 66, 2)) rfl
theorem dX16_init_1405 : decode cX16_init 1405 = .ok (.iconst 5, 1) := dk_get daX16_init_c3 51 (r := (1405, .iconst 5, 1)) rfl
theorem dX16_init_1406 : decode cX16_init 1406 = .ok (.iastore, 1) := dk_get daX16_init_c3 52 (r := (1406, .iastore, 1)) rfl
theorem dX16_init_1407 : decode cX16_init 1407 = .ok (.dup, 1) := dk_get daX16_init_c3 53 (r := (1407, .dup, 1)) rfl
theorem dX16_init_1408 : decode cX16_init 1408 = .ok (.bipush 67, 2) := dk_get daX16_init_c3 54 (r := (1408, .bipush 67, 2)) rfl
theorem dX16_init_1410 : decode cX16_init 1410 = .ok (.bipush 11, 2) := dk_get daX16_init_c3 55 (r := (1410, .bipush 11, 2)) rfl
theorem dX16_init_1412 : decode cX16_init 1412 = .ok (.iastore, 1) := dk_get daX16_init_c3 56 (r := (1412, .iastore, 1)) rfl
theorem dX16_init_1413 : decode cX16_init 1413 = .ok (.dup, 1) := dk_get daX16_init_c3 57 (r := (1413, .dup, 1)) rfl
theorem dX16_init_1414 : decode cX16_init 1414 = .ok (.bipush 68, 2) := dk_get daX16_init_c3 58 (r := (1414, .bipush 68, 2)) rfl
theorem dX16_init_1416 : decode cX16_init 1416 = .ok (.bipush 6, 2) := dk_get daX16_init_c3 59 (r := (1416, .bipush 6, 2)) rfl
theorem dX16_init_1418 : decode cX16_init 1418 = .ok (.iastore, 1) := dk_get daX16_init_c3 60 (r := (1418, .iastore, 1)) rfl
theorem dX16_init_1419 : decode cX16_init 1419 = .ok (.dup, 1) := dk_get daX16_init_c3 61 (r := (1419, .dup, 1)) rfl
theorem dX16_init_1420 : decode cX16_init 1420 = .ok (.bipush 69, 2) := dk_get daX16_init_c3 62 (r := (1420, .bipush 69, 2)) rfl
theorem dX16_init_1422 : decode cX16_init 1422 = .ok (.bipush 8, 2) := dk_get daX16_init_c3 63 (r := (1422, .bipush 8, 2)) rfl
theorem dX16_init_1424 : decode cX16_init 1424 = .ok (.iastore, 1) := dk_get daX16_init_c3 64 (r := (1424, .iastore, 1)) rfl
theorem dX16_init_1425 : decode cX16_init 1425 = .ok (.dup, 1) := dk_get daX16_init_c3 65 (r := (1425, .dup, 1)) rfl
theorem dX16_init_1426 : decode cX16_init 1426 = .ok (.bipush 70, 2) := dk_get daX16_init_c3 66 (r := (1426, .bipush 70, 2)) rfl
theorem dX16_init_1428 : decode cX16_init 1428 = .ok (.bipush 13, 2) := dk_get daX16_init_c3 67 (r := (1428, .bipush 13, 2)) rfl
theorem dX16_init_1430 : decode cX16_init 1430 = .ok (.iastore, 1) := dk_get daX16_init_c3 68 (r := (1430, .iastore, 1)) rfl
theorem dX16_init_1431 : decode cX16_init 1431 = .ok (.dup, 1) := dk_get daX16_init_c3 69 (r := (1431, .dup, 1)) rfl
theorem dX16_init_1432 : decode cX16_init 1432 = .ok (.bipush 71, 2) := dk_get daX16_init_c3 70 (r := (1432, .bipush 71, 2)) rfl
theorem dX16_init_1434 : decode cX16_init 1434 = .ok (.bipush 12, 2) := dk_get daX16_init_c3 71 (r := (1434, .bipush 12, 2)) rfl
theorem dX16_init_1436 : decode cX16_init 1436 = .ok (.iastore, 1) := dk_get daX16_init_c3 72 (r := (1436, .iastore, 1)) rfl
theorem dX16_init_1437 : decode cX16_init 1437 = .ok (.dup, 1) := dk_get daX16_init_c3 73 (r := (1437, .dup, 1)) rfl
theorem dX16_init_1438 : decode cX16_init 1438 = .ok (.bipush 72, 2) := dk_get daX16_init_c3 74 (r := (1438, .bipush 72, 2)) rfl
theorem dX16_init_1440 : decode cX16_init 1440 = .ok (.iconst 5, 1) := dk_get daX16_init_c3 75 (r := (1440, .iconst 5, 1)) rfl
theorem dX16_init_1441 : decode cX16_init 1441 = .ok (.iastore, 1) := dk_get daX16_init_c3 76 (r := (1441, .iastore, 1)) rfl
theorem dX16_init_1442 : decode cX16_init 1442 = .ok (.dup, 1) := dk_get daX16_init_c3 77 (r := (1442, .dup, 1)) rfl
theorem dX16_init_1443 : decode cX16_init 1443 = .ok (.bipush 73, 2) := dk_get daX16_init_c3 78 (r := (1443, .bipush 73, 2)) rfl
theorem dX16_init_1445 : decode cX16_init 1445 = .ok (.bipush 12, 2) := dk_get daX16_init_c3 79 (r := (1445, .bipush 12, 2)) rfl
theorem dX16_init_1447 : decode cX16_init 1447 = .ok (.iastore, 1) := dk_get daX16_init_c3 80 (r := (1447, .iastore, 1)) rfl
theorem dX16_init_1448 : decode cX16_init 1448 = .ok (.dup, 1) := dk_get daX16_init_c3 81 (r := (1448, .dup, 1)) rfl
theorem dX16_init_1449 : decode cX16_init 1449 = .ok (.bipush 74, 2) := dk_get daX16_init_c3 82 (r := (1449, .bipush 74, 2)) rfl
theorem dX16_init_1451 : decode cX16_init 1451 = .ok (.bipush 13, 2) := dk_get daX16_init_c3 83 (r := (1451, .bipush 13, 2)) rfl
theorem dX16_init_1453 : decode cX16_init 1453 = .ok (.iastore, 1) := dk_get daX16_init_c3 84 (r := (1453, .iastore, 1)) rfl
theorem dX16_init_1454 : decode cX16_init 1454 = .ok (.dup, 1) := dk_get daX16_init_c3 85 (r := (1454, .dup, 1)) rfl
theorem dX16_init_1455 : decode cX16_init 1455 = .ok (.bipush 75, 2) := dk_get daX16_init_c3 86 (r := (1455, .bipush 75, 2)) rfl
theorem dX16_init_1457 : decode cX16_init 1457 = .ok (.bipush 14, 2) := dk_get daX16_init_c3 87 (r := (1457, .bipush 14, 2)) rfl
theorem dX16_init_1459 : decode cX16_init 1459 = .ok (.iastore, 1) := dk_get daX16_init_c3 88 (r := (1459, .iastore, 1)) rfl
theorem dX16_init_1460 : decode cX16_init 1460 = .ok (.dup, 1) := dk_get daX16_init_c3 89 (r := (1460, .dup, 1)) rfl
theorem dX16_init_1461 : decode cX16_init 1461 = .ok (.bipush 76, 2) := dk_get daX16_init_c3 90 (r := (1461, .bipush 76, 2)) rfl
theorem dX16_init_1463 : decode cX16_init 1463 = .ok (.bipush 11, 2) := dk_get daX16_init_c3 91 (r := (1463, .bipush 11, 2)) rfl
theorem dX16_init_1465 : decode cX16_init 1465 = .ok (.iastore, 1) := dk_get daX16_init_c3 92 (r := (1465, .iastore, 1)) rfl
theorem dX16_init_1466 : decode cX16_init 1466 = .ok (.dup, 1) := dk_get daX16_init_c3 93 (r := (1466, .dup, 1)) rfl
theorem dX16_init_1467 : decode cX16_init 1467 = .ok (.bipush 77, 2) := dk_get daX16_init_c3 94 (r := (1467, .bipush 77, 2)) rfl
theorem dX16_init_1469 : decode cX16_init 1469 = .ok (.bipush 8, 2) := dk_get daX16_init_c3 95 (r := (1469, .bipush 8, 2)) rfl
theorem dX16_init_1471 : decode cX16_init 1471 = .ok (.iastore, 1) := dk_get daX16_init_c3 96 (r := (1471, .iastore, 1)) rfl
theorem dX16_init_1472 : decode cX16_init 1472 = .ok (.dup, 1) := dk_get daX16_init_c3 97 (r := (1472, .dup, 1)) rfl
theorem dX16_init_1473 : decode cX16_init 1473 = .ok (.bipush 78, 2) := dk_get daX16_init_c3 98 (r := (1473, .bipush 78, 2)) rfl
theorem dX16_init_1475 : decode cX16_init 1475 = .ok (.iconst 5, 1) := dk_get daX16_init_c3 99 (r := (1475, .iconst 5, 1)) rfl
theorem dX16_init_1476 : decode cX16_init 1476 = .ok (.iastore, 1) := dk_get daX16_init_c3 100 (r := (1476, .iastore, 1)) rfl
theorem dX16_init_1477 : decode cX16_init 1477 = .ok (.dup, 1) := dk_get daX16_init_c3 101 (r := (1477, .dup, 1)) rfl
theorem dX16_init_1478 : decode cX16_init 1478 = .ok (.bipush 79, 2) := dk_get daX16_init_c3 102 (r := (1478, .bipush 79, 2)) rfl
theorem dX16_init_1480 : decode cX16_init 1480 = .ok (.bipush 6, 2) := dk_get daX16_init_c3 103 (r := (1480, .bipush 6, 2)) rfl
theorem dX16_init_1482 : decode cX16_init 1482 = .ok (.iastore, 1) := dk_get daX16_init_c3 104 (r := (1482, .iastore, 1)) rfl
theorem dX16_init_1483 : decode cX16_init 1483 = .ok (.dup, 1) := dk_get daX16_init_c3 105 (r := (1483, .dup, 1)) rfl
theorem dX16_init_1484 : decode cX16_init 1484 = .ok (.bipush 80, 2) := dk_get daX16_init_c3 106 (r := (1484, .bipush 80, 2)) rfl
theorem dX16_init_1486 : decode cX16_init 1486 = .ok (.bipush 8, 2) := dk_get daX16_init_c3 107 (r := (1486, .bipush 8, 2)) rfl
theorem dX16_init_1488 : decode cX16_init 1488 = .ok (.iastore, 1) := dk_get daX16_init_c3 108 (r := (1488, .iastore, 1)) rfl
theorem dX16_init_1489 : decode cX16_init 1489 = .ok (.dup, 1) := dk_get daX16_init_c3 109 (r := (1489, .dup, 1)) rfl
theorem dX16_init_1490 : decode cX16_init 1490 = .ok (.bipush 81, 2) := dk_get daX16_init_c3 110 (r := (1490, .bipush 81, 2)) rfl
theorem dX16_init_1492 : decode cX16_init 1492 = .ok (.bipush 9, 2) := dk_get daX16_init_c3 111 (r := (1492, .bipush 9, 2)) rfl
theorem dX16_init_1494 : decode cX16_init 1494 = .ok (.iastore, 1) := dk_get daX16_init_c3 112 (r := (1494, .iastore, 1)) rfl
theorem dX16_init_1495 : decode cX16_init 1495 = .ok (.dup, 1) := dk_get daX16_init_c3 113 (r := (1495, .dup, 1)) rfl
theorem dX16_init_1496 : decode cX16_init 1496 = .ok (.bipush 82, 2) := dk_get daX16_init_c3 114 (r := (1496, .bipush 82, 2)) rfl
theorem dX16_init_1498 : decode cX16_init 1498 = .ok (.bipush 9, 2) := dk_get daX16_init_c3 115 (r := (1498, .bipush 9, 2)) rfl
theorem dX16_init_1500 : decode cX16_init 1500 = .ok (.iastore, 1) := dk_get daX16_init_c3 116 (r := (1500, .iastore, 1)) rfl
theorem dX16_init_1501 : decode cX16_init 1501 = .ok (.dup, 1) := dk_get daX16_init_c3 117 (r := (1501, .dup, 1)) rfl
theorem dX16_init_1502 : decode cX16_init 1502 = .ok (.bipush 83, 2) := dk_get daX16_init_c3 118 (r := (1502, .bipush 83, 2)) rfl
theorem dX16_init_1504 : decode cX16_init 1504 = .ok (.bipush 11, 2) := dk_get daX16_init_c3 119 (r := (1504, .bipush 11, 2)) rfl
theorem dX16_init_1506 : decode cX16_init 1506 = .ok (.iastore, 1) := dk_get daX16_init_c3 120 (r := (1506, .iastore, 1)) rfl
theorem dX16_init_1507 : decode cX16_init 1507 = .ok (.dup, 1) := dk_get daX16_init_c3 121 (r := (1507, .dup, 1)) rfl
theorem dX16_init_1508 : decode cX16_init 1508 = .ok (.bipush 84, 2) := dk_get daX16_init_c3 122 (r := (1508, .bipush 84, 2)) rfl
theorem dX16_init_1510 : decode cX16_init 1510 = .ok (.bipush 13, 2) := dk_get daX16_init_c3 123 (r := (1510, .bipush 13, 2)) rfl
theorem dX16_init_1512 : decode cX16_init 1512 = .ok (.iastore, 1) := dk_get daX16_init_c3 124 (r := (1512, .iastore, 1)) rfl
theorem dX16_init_1513 : decode cX16_init 1513 = .ok (.dup, 1) := dk_get daX16_init_c3 125 (r := (1513, .dup, 1)) rfl
theorem dX16_init_1514 : decode cX16_init 1514 = .ok (.bipush 85, 2) := dk_get daX16_init_c3 126 (r := (1514, .bipush 85, 2)) rfl
theorem dX16_init_1516 : decode cX16_init 1516 = .ok (.bipush 15, 2) := dk_get daX16_init_c3 127 (r := (1516, .bipush 15, 2)) rfl
theorem dX16_init_1518 : decode cX16_init 1518 = .ok (.iastore, 1) := dk_get daX16_init_c3 128 (r := (1518, .iastore, 1)) rfl
theorem dX16_init_1519 : decode cX16_init 1519 = .ok (.dup, 1) := dk_get daX16_init_c3 129 (r := (1519, .dup, 1)) rfl
theorem dX16_init_1520 : decode cX16_init 1520 = .ok (.bipush 86, 2) := dk_get daX16_init_c3 130 (r := (1520, .bipush 86, 2)) rfl
theorem dX16_init_1522 : decode cX16_init 1522 = .ok (.bipush 15, 2) := dk_get daX16_init_c3 131 (r := (1522, .bipush 15, 2)) rfl
theorem dX16_init_1524 : decode cX16_init 1524 = .ok (.iastore, 1) := dk_get daX16_init_c3 132 (r := (1524, .iastore, 1)) rfl
theorem dX16_init_1525 : decode cX16_init 1525 = .ok (.dup, 1) := dk_get daX16_init_c3 133 (r := (1525, .dup, 1)) rfl
theorem dX16_init_1526 : decode cX16_init 1526 = .ok (.bipush 87, 2) := dk_get daX16_init_c3 134 (r := (1526, .bipush 87, 2)) rfl
theorem dX16_init_1528 : decode cX16_init 1528 = .ok (.iconst 5, 1) := dk_get daX16_init_c3 135 (r := (1528, .iconst 5, 1)) rfl
theorem dX16_init_1529 : decode cX16_init 1529 = .ok (.iastore, 1) := dk_get daX16_init_c3 136 (r := (1529, .iastore, 1)) rfl
theorem dX16_init_1530 : decode cX16_init 1530 = .ok (.dup, 1) := dk_get daX16_init_c3 137 (r := (1530, .dup, 1)) rfl
theorem dX16_init_1531 : decode cX16_init 1531 = .ok (.bipush 88, 2) := dk_get daX16_init_c3 138 (r := (1531, .bipush 88, 2)) rfl
theorem dX16_init_1533 : decode cX16_init 1533 = .ok (.bipush 7, 2) := dk_get daX16_init_c3 139 (r := (1533, .bipush 7, 2)) rfl
theorem dX16_init_1535 : decode cX16_init 1535 = .ok (.iastore, 1) := dk_get daX16_init_c3 140 (r := (1535, .iastore, 1)) rfl
theorem dX16_init_1536 : decode cX16_init 1536 = .ok (.dup, 1) := dk_get daX16_init_c3 141 (r := (1536, .dup, 1)) rfl
theorem dX16_init_1537 : decode cX16_init 1537 = .ok (.bipush 89, 2) := dk_get daX16_init_c3 142 (r := (1537, .bipush 89, 2)) rfl
theorem dX16_init_1539 : decode cX16_init 1539 = .ok (.bipush 7, 2) := dk_get daX16_init_c3 143 (r := (1539, .bipush 7, 2)) rfl
theorem dX16_init_1541 : decode cX16_init 1541 = .ok (.iastore, 1) := dk_get daX16_init_c3 144 (r := (1541, .iastore, 1)) rfl
theorem dX16_init_1542 : decode cX16_init 1542 = .ok (.dup, 1) := dk_get daX16_init_c3 145 (r := (1542, .dup, 1)) rfl
theorem dX16_init_1543 : decode cX16_init 1543 = .ok (.bipush 90, 2) := dk_get daX16_init_c3 146 (r := (1543, .bipush 90, 2)) rfl
theorem dX16_init_1545 : decode cX16_init 1545 = .ok (.bipush 8, 2) := dk_get daX16_init_c3 147 (r := (1545, .bipush 8, 2)) rfl
theorem dX16_init_1547 : decode cX16_init 1547 = .ok (.iastore, 1) := dk_get daX16_init_c3 148 (r := (1547, .iastore, 1)) rfl
theorem dX16_init_1548 : decode cX16_init 1548 = .ok (.dup, 1) := dk_get daX16_init_c3 149 (r := (1548, .dup, 1)) rfl
theorem dX16_init_1549 : decode cX16_init 1549 = .ok (.bipush 91, 2) := dk_get daX16_init_c3 150 (r := (1549, .bipush 91, 2)) rfl
theorem dX16_init_1551 : decode cX16_init 1551 = .ok (.bipush 11, 2) := dk_get daX16_init_c3 151 (r := (1551, .bipush 11, 2)) rfl
theorem dX16_init_1553 : decode cX16_init 1553 = .ok (.iastore, 1) := dk_get daX16_init_c3 152 (r := (1553, .iastore, 1)) rfl
theorem dX16_init_1554 : decode cX16_init 1554 = .ok (.dup, 1) := dk_get daX16_init_c3 153 (r := (1554, .dup, 1)) rfl
theorem dX16_init_1555 : decode cX16_init 1555 = .ok (.bipush 92, 2) := dk_get daX16_init_c3 154 (r := (1555, .bipush 92, 2)) rfl
theorem dX16_init_1557 : decode cX16_init 1557 = .ok (.bipush 14, 2) := dk_get daX16_init_c3 155 (r := (1557, .bipush 14, 2)) rfl
theorem dX16_init_1559 : decode cX16_init 1559 = .ok (.iastore, 1) := dk_get daX16_init_c3 156 (r := (1559, .iastore, 1)) rfl
theorem dX16_init_1560 : decode cX16_init 1560 = .ok (.dup, 1) := dk_get daX16_init_c3 157 (r := (1560, .dup, 1)) rfl
theorem dX16_init_1561 : decode cX16_init 1561 = .ok (.bipush 93, 2) := dk_get daX16_init_c3 158 (r := (1561, .bipush 93, 2)) rfl
theorem dX16_init_1563 : decode cX16_init 1563 = .ok (.bipush 14, 2) := dk_get daX16_init_c3 159 (r := (1563, .bipush 14, 2)) rfl
theorem dX16_init_1565 : decode cX16_init 1565 = .ok (.iastore, 1) := dk_get daX16_init_c3 160 (r := (1565, .iastore, 1)) rfl
theorem dX16_init_1566 : decode cX16_init 1566 = .ok (.dup, 1) := dk_get daX16_init_c3 161 (r := (1566, .dup, 1)) rfl
theorem dX16_init_1567 : decode cX16_init 1567 = .ok (.bipush 94, 2) := dk_get daX16_init_c3 162 (r := (1567, .bipush 94, 2)) rfl
theorem dX16_init_1569 : decode cX16_init 1569 = .ok (.bipush 12, 2) := dk_get daX16_init_c3 163 (r := (1569, .bipush 12, 2)) rfl
theorem dX16_init_1571 : decode cX16_init 1571 = .ok (.iastore, 1) := dk_get daX16_init_c3 164 (r := (1571, .iastore, 1)) rfl
theorem dX16_init_1572 : decode cX16_init 1572 = .ok (.dup, 1) := dk_get daX16_init_c3 165 (r := (1572, .dup, 1)) rfl
theorem dX16_init_1573 : decode cX16_init 1573 = .ok (.bipush 95, 2) := dk_get daX16_init_c3 166 (r := (1573, .bipush 95, 2)) rfl
theorem dX16_init_1575 : decode cX16_init 1575 = .ok (.bipush 6, 2) := dk_get daX16_init_c3 167 (r := (1575, .bipush 6, 2)) rfl
theorem dX16_init_1577 : decode cX16_init 1577 = .ok (.iastore, 1) := dk_get daX16_init_c3 168 (r := (1577, .iastore, 1)) rfl
theorem dX16_init_1578 : decode cX16_init 1578 = .ok (.dup, 1) := dk_get daX16_init_c3 169 (r := (1578, .dup, 1)) rfl
theorem dX16_init_1579 : decode cX16_init 1579 = .ok (.bipush 96, 2) := dk_get daX16_init_c3 170 (r := (1579, .bipush 96, 2)) rfl
theorem dX16_init_1581 : decode cX16_init 1581 = .ok (.bipush 9, 2) := dk_get daX16_init_c3 171 (r := (1581, .bipush 9, 2)) rfl
theorem dX16_init_1583 : decode cX16_init 1583 = .ok (.iastore, 1) := dk_get daX16_init_c3 172 (r := (1583, .iastore, 1)) rfl
theorem dX16_init_1584 : decode cX16_init 1584 = .ok (.dup, 1) := dk_get daX16_init_c3 173 (r := (1584, .dup, 1)) rfl
theorem dX16_init_1585 : decode cX16_init 1585 = .ok (.bipush 97, 2) := dk_get daX16_init_c3 174 (r := (1585, .bipush 97, 2)) rfl
theorem dX16_init_1587 : decode cX16_init 1587 = .ok (.bipush 13, 2) := dk_get daX16_init_c3 175 (r := (1587, .bipush 13, 2)) rfl
theorem dX16_init_1589 : decode cX16_init 1589 = .ok (.iastore, 1) := dk_get daX16_init_c3 176 (r := (1589, .iastore, 1)) rfl
theorem dX16_init_1590 : decode cX16_init 1590 = .ok (.dup, 1) := dk_get daX16_init_c3 177 (r := (1590, .dup, 1)) rfl
theorem dX16_init_1591 : decode cX16_init 1591 = .ok (.bipush 98, 2) := dk_get daX16_init_c3 178 (r := (1591, .bipush 98, 2)) rfl
theorem dX16_init_1593 : decode cX16_init 1593 = .ok (.bipush 15, 2) := dk_get daX16_init_c3 179 (r := (1593, .bipush 15, 2)) rfl
theorem dX16_init_1595 : decode cX16_init 1595 = .ok (.iastore, 1) := dk_get daX16_init_c3 180 (r := (1595, .iastore, 1)) rfl
theorem dX16_init_1596 : decode cX16_init 1596 = .ok (.dup, 1) := dk_get daX16_init_c3 181 (r := (1596, .dup, 1)) rfl
theorem dX16_init_1597 : decode cX16_init 1597 = .ok (.bipush 99, 2) := dk_get daX16_init_c3 182 (r := (1597, .bipush 99, 2)) rfl
theorem dX16_init_1599 : decode cX16_init 1599 = .ok (.bipush 7, 2) := dk_get daX16_init_c3 183 (r := (1599, .bipush 7, 2)) rfl
theorem dX16_init_1601 : decode cX16_init 1601 = .ok (.iastore, 1) := dk_get daX16_init_c3 184 (r := (1601, .iastore, 1)) rfl
theorem dX16_init_1602 : decode cX16_init 1602 = .ok (.dup, 1) := dk_get daX16_init_c3 185 (r := (1602, .dup, 1)) rfl
theorem dX16_init_1603 : decode cX16_init 1603 = .ok (.bipush 100, 2) := dk_get daX16_init_c3 186 (r := (1603, .bipush 100, 2)) rfl
theorem dX16_init_1605 : decode cX16_init 1605 = .ok (.bipush 12, 2) := dk_get daX16_init_c3 187 (r := (1605, .bipush 12, 2)) rfl
theorem dX16_init_1607 : decode cX16_init 1607 = .ok (.iastore, 1) := dk_get daX16_init_c3 188 (r := (1607, .iastore, 1)) rfl
theorem dX16_init_1608 : decode cX16_init 1608 = .ok (.dup, 1) := dk_get daX16_init_c3 189 (r := (1608, .dup, 1)) rfl
theorem dX16_init_1609 : decode cX16_init 1609 = .ok (.bipush 101, 2) := dk_get daX16_init_c3 190 (r := (1609, .bipush 101, 2)) rfl
theorem dX16_init_1611 : decode cX16_init 1611 = .ok (.bipush 8, 2) := dk_get daX16_init_c3 191 (r := (1611, .bipush 8, 2)) rfl
theorem dX16_init_1613 : decode cX16_init 1613 = .ok (.iastore, 1) := dk_get daX16_init_c3 192 (r := (1613, .iastore, 1)) rfl
theorem dX16_init_1614 : decode cX16_init 1614 = .ok (.dup, 1) := dk_get daX16_init_c3 193 (r := (1614, .dup, 1)) rfl
theorem dX16_init_1615 : decode cX16_init 1615 = .ok (.bipush 102, 2) := dk_get daX16_init_c3 194 (r := (1615, .bipush 102, 2)) rfl
theorem dX16_init_1617 : decode cX16_init 1617 = .ok (.bipush 9, 2) := dk_get daX16_init_c3 195 (r := (1617, .bipush 9, 2)) rfl
theorem dX16_init_1619 : decode cX16_init 1619 = .ok (.iastore, 1) := dk_get daX16_init_c3 196 (r := (1619, .iastore, 1)) rfl
theorem dX16_init_1620 : decode cX16_init 1620 = .ok (.dup, 1) := dk_get daX16_init_c3 197 (r := (1620, .dup, 1)) rfl
theorem dX16_init_1621 : decode cX16_init 1621 = .ok (.bipush 103, 2) := dk_get daX16_init_c3 198 (r := (1621, .bipush 103, 2)) rfl
theorem dX16_init_1623 : decode cX16_init 1623 = .ok (.bipush 11, 2) := dk_get daX16_init_c3 199 (r := (1623, .bipush 11, 2)) rfl
theorem dX16_init_1625 : decode cX16_init 1625 = .ok (.iastore, 1) := dk_get daX16_init_c3 200 (r := (1625, .iastore, 1)) rfl
theorem dX16_init_1626 : decode cX16_init 1626 = .ok (.dup, 1) := dk_get daX16_init_c3 201 (r := (1626, .dup, 1)) rfl
theorem dX16_init_1627 : decode cX16_init 1627 = .ok (.bipush 104, 2) := dk_get daX16_init_c3 202 (r := (1627, .bipush 104, 2)) rfl
theorem dX16_init_1629 : decode cX16_init 1629 = .ok (.bipush 7, 2) := dk_get daX16_init_c3 203 (r := (1629, .bipush 7, 2)) rfl
theorem dX16_init_1631 : decode cX16_init 1631 = .ok (.iastore, 1) := dk_get daX16_init_c3 204 (r := (1631, .iastore, 1)) rfl
theorem dX16_init_1632 : decode cX16_init 1632 = .ok (.dup, 1) := dk_get daX16_init_c3 205 (r := (1632, .dup, 1)) rfl
theorem dX16_init_1633 : decode cX16_init 1633 = .ok (.bipush 105, 2) := dk_get daX16_init_c3 206 (r := (1633, .bipush 105, 2)) rfl
theorem dX16_init_1635 : decode cX16_init 1635 = .ok (.bipush 7, 2) := dk_get daX16_init_c3 207 (r := (1635, .bipush 7, 2)) rfl
theorem dX16_init_1637 : decode cX16_init 1637 = .ok (.iastore, 1) := dk_get daX16_init_c3 208 (r := (1637, .iastore, 1)) rfl
theorem dX16_init_1638 : decode cX16_init 1638 = .ok (.dup, 1) := dk_get daX16_init_c3 209 (r := (1638, .dup, 1)) rfl
theorem dX16_init_1639 : decode cX16_init 1639 = .ok (.bipush 106, 2) := dk_get daX16_init_c3 210 (r := (1639, .bipush 106, 2)) rfl
theorem dX16_init_1641 : decode cX16_init 1641 = .ok (.bipush 12, 2) := dk_get daX16_init_c3 211 (r := (1641, .bipush 12, 2)) rfl
theorem dX16_init_1643 : decode cX16_init 1643 = .ok (.iastore, 1) := dk_get daX16_init_c3 212 (r := (1643, .iastore, 1)) rfl
theorem dX16_init_1644 : decode cX16_init 1644 = .ok (.dup, 1) := dk_get daX16_init_c3 213 (r := (1644, .dup, 1)) rfl
theorem dX16_init_1645 : decode cX16_init 1645 = .ok (.bipush 107, 2) := dk_get daX16_init_c3 214 (r := (1645, .bipush 107, 2)) rfl
theorem dX16_init_1647 : decode cX16_init 1647 = .ok (.bipush 7, 2) := dk_get daX16_init_c3 215 (r := (1647, .bipush 7, 2)) rfl
theorem dX16_init_1649 : decode cX16_init 1649 = .ok (.iastore, 1) := dk_get daX16_init_c3 216 (r := (1649, .iastore, 1)) rfl
theorem dX16_init_1650 : decode cX16_init 1650 = .ok (.dup, 1) := dk_get daX16_init_c3 217 (r := (1650, .dup, 1)) rfl
theorem dX16_init_1651 : decode cX16_init 1651 = .ok (.bipush 108, 2) := dk_get daX16_init_c3 218 (r := (1651, .bipush 108, 2)) rfl
theorem dX16_init_1653 : decode cX16_init 1653 = .ok (.bipush 6, 2) := dk_get daX16_init_c3 219 (r := (1653, .bipush 6, 2)) rfl
theorem dX16_init_1655 : decode cX16_init 1655 = .ok (.iastore, 1) := dk_get daX16_init_c3 220 (r := (1655, .iastore, 1)) rfl
theorem dX16_init_1656 : decode cX16_init 1656 = .ok (.dup, 1) := dk_get daX16_init_c3 221 (r := (1656, .dup, 1)) rfl
theorem dX16_init_1657 : decode cX16_init 1657 = .ok (.bipush 109, 2) := dk_get daX16_init_c3 222 (r := (1657, .bipush 109, 2)) rfl
theorem dX16_init_1659 : decode cX16_init 1659 = .ok (.bipush 15, 2) := dk_get daX16_init_c3 223 (r := (1659, .bipush 15, 2)) rfl
theorem dX16_init_1661 : decode cX16_init 1661 = .ok (.iastore, 1) := dk_get daX16_init_c3 224 (r := (1661, .iastore, 1)) rfl
theorem dX16_init_1662 : decode cX16_init 1662 = .ok (.dup, 1) := dk_get daX16_init_c3 225 (r := (1662, .dup, 1)) rfl
theorem dX16_init_1663 : decode cX16_init 1663 = .ok (.bipush 110, 2) := dk_get daX16_init_c3 226 (r := (1663, .bipush 110, 2)) rfl
theorem dX16_init_1665 : decode cX16_init 1665 = .ok (.bipush 13, 2) := dk_get daX16_init_c3 227 (r := (1665, .bipush 13, 2)) rfl
theorem dX16_init_1667 : decode cX16_init 1667 = .ok (.iastore, 1) := dk_get daX16_init_c3 228 (r := (1667, .iastore, 1)) rfl
theorem dX16_init_1668 : decode cX16_init 1668 = .ok (.dup, 1) := dk_get daX16_init_c3 229 (r := (1668, .dup, 1)) rfl
theorem dX16_init_1669 : decode cX16_init 1669 = .ok (.bipush 111, 2) := dk_get daX16_init_c3 230 (r := (1669, .bipush 111, 2)) rfl
theorem dX16_init_1671 : decode cX16_init 1671 = .ok (.bipush 11, 2) := dk_get daX16_init_c3 231 (r := (1671, .bipush 11, 2)) rfl
theorem dX16_init_1673 : decode cX16_init 1673 = .ok (.iastore, 1) := dk_get daX16_init_c3 232 (r := (1673, .iastore, 1)) rfl
theorem dX16_init_1674 : decode cX16_init 1674 = .ok (.dup, 1) := dk_get daX16_init_c3 233 (r := (1674, .dup, 1)) rfl
theorem dX16_init_1675 : decode cX16_init 1675 = .ok (.bipush 112, 2) := dk_get daX16_init_c3 234 (r := (1675, .bipush 112, 2)) rfl
theorem dX16_init_1677 : decode cX16_init 1677 = .ok (.bipush 9, 2) := dk_get daX16_init_c3 235 (r := (1677, .bipush 9, 2)) rfl
theorem dX16_init_1679 : decode cX16_init 1679 = .ok (.iastore, 1) := dk_get daX16_init_c3 236 (r := (1679, .iastore, 1)) rfl
theorem dX16_init_1680 : decode cX16_init 1680 = .ok (.dup, 1) := dk_get daX16_init_c3 237 (r := (1680, .dup, 1)) rfl
theorem dX16_init_1681 : decode cX16_init 1681 = .ok (.bipush 113, 2) := dk_get daX16_init_c3 238 (r := (1681, .bipush 113, 2)) rfl
theorem dX16_init_1683 : decode cX16_init 1683 = .ok (.bipush 7, 2) := dk_get daX16_init_c3 239 (r := (1683, .bipush 7, 2)) rfl
theorem dX16_init_1685 : decode cX16_init 1685 = .ok (.iastore, 1) := dk_get daX16_init_c3 240 (r := (1685, .iastore, 1)) rfl
theorem dX16_init_1686 : decode cX16_init 1686 = .ok (.dup, 1) := dk_get daX16_init_c3 241 (r := (1686, .dup, 1)) rfl
theorem dX16_init_1687 : decode cX16_init 1687 = .ok (.bipush 114, 2) := dk_get daX16_init_c3 242 (r := (1687, .bipush 114, 2)) rfl
theorem dX16_init_1689 : decode cX16_init 1689 = .ok (.bipush 15, 2) := dk_get daX16_init_c3 243 (r := (1689, .bipush 15, 2)) rfl
theorem dX16_init_1691 : decode cX16_init 1691 = .ok (.iastore, 1) := dk_get daX16_init_c3 244 (r := (1691, .iastore, 1)) rfl
theorem dX16_init_1692 : decode cX16_init 1692 = .ok (.dup, 1) := dk_get daX16_init_c3 245 (r := (1692, .dup, 1)) rfl
theorem dX16_init_1693 : decode cX16_init 1693 = .ok (.bipush 115, 2) := dk_get daX16_init_c3 246 (r := (1693, .bipush 115, 2)) rfl
theorem dX16_init_1695 : decode cX16_init 1695 = .ok (.bipush 11, 2) := dk_get daX16_init_c3 247 (r := (1695, .bipush 11, 2)) rfl
theorem dX16_init_1697 : decode cX16_init 1697 = .ok (.iastore, 1) := dk_get daX16_init_c3 248 (r := (1697, .iastore, 1)) rfl
theorem dX16_init_1698 : decode cX16_init 1698 = .ok (.dup, 1) := dk_get daX16_init_c3 249 (r := (1698, .dup, 1)) rfl
theorem dX16_init_1699 : decode cX16_init 1699 = .ok (.bipush 116, 2) := dk_get daX16_init_c3 250 (r := (1699, .bipush 116, 2)) rfl
theorem dX16_init_1701 : decode cX16_init 1701 = .ok (.bipush 8, 2) := dk_get daX16_init_c3 251 (r := (1701, .bipush 8, 2)) rfl
theorem dX16_init_1703 : decode cX16_init 1703 = .ok (.iastore, 1) := dk_get daX16_init_c3 252 (r := (1703, .iastore, 1)) rfl
theorem dX16_init_1704 : decode cX16_init 1704 = .ok (.dup, 1) := dk_get daX16_init_c3 253 (r := (1704, .dup, 1)) rfl
theorem dX16_init_1705 : decode cX16_init 1705 = .ok (.bipush 117, 2) := dk_get daX16_init_c3 254 (r := (1705, .bipush 117, 2)) rfl
theorem dX16_init_1707 : decode cX16_init 1707 = .ok (.bipush 6, 2) := dk_get daX16_init_c3 255 (r := (1707, .bipush 6, 2)) rfl
theorem dX16_init_1709 : decode cX16_init 1709 = .ok (.iastore, 1) := dk_get daX16_init_c3 256 (r := (1709, .iastore, 1)) rfl
theorem dX16_init_1710 : decode cX16_init 1710 = .ok (.dup, 1) := dk_get daX16_init_c3 257 (r := (1710, .dup, 1)) rfl
theorem dX16_init_1711 : decode cX16_init 1711 = .ok (.bipush 118, 2) := dk_get daX16_init_c3 258 (r := (1711, .bipush 118, 2)) rfl
theorem dX16_init_1713 : decode cX16_init 1713 = .ok (.bipush 6, 2) := dk_get daX16_init_c3 259 (r := (1713, .bipush 6, 2)) rfl
theorem dX16_init_1715 : decode cX16_init 1715 = .ok (.iastore, 1) := dk_get daX16_init_c3 260 (r := (1715, .iastore, 1)) rfl
theorem dX16_init_1716 : decode cX16_init 1716 = .ok (.dup, 1) := dk_get daX16_init_c3 261 (r := (1716, .dup, 1)) rfl
theorem dX16_init_1717 : decode cX16_init 1717 = .ok (.bipush 119, 2) := dk_get daX16_init_c3 262 (r := (1717, .bipush 119, 2)) rfl
theorem dX16_init_1719 : decode cX16_init 1719 = .ok (.bipush 14, 2) := dk_get daX16_init_c3 263 (r := (1719, .bipush 14, 2)) rfl
theorem dX16_init_1721 : decode cX16_init 1721 = .ok (.iastore, 1) := dk_get daX16_init_c3 264 (r := (1721, .iastore, 1)) rfl
theorem dX16_init_1722 : decode cX16_init 1722 = .ok (.dup, 1) := dk_get daX16_init_c3 265 (r := (1722, .dup, 1)) rfl
theorem dX16_init_1723 : decode cX16_init 1723 = .ok (.bipush 120, 2) := dk_get daX16_init_c3 266 (r := (1723, .bipush 120, 2)) rfl
theorem dX16_init_1725 : decode cX16_init 1725 = .ok (.bipush 12, 2) := dk_get daX16_init_c3 267 (r := (1725, .bipush 12, 2)) rfl
theorem dX16_init_1727 : decode cX16_init 1727 = .ok (.iastore, 1) := dk_get daX16_init_c3 268 (r := (1727, .iastore, 1)) rfl
theorem dX16_init_1728 : decode cX16_init 1728 = .ok (.dup, 1) := dk_get daX16_init_c3 269 (r := (1728, .dup, 1)) rfl
theorem dX16_init_1729 : decode cX16_init 1729 = .ok (.bipush 121, 2) := dk_get daX16_init_c3 270 (r := (1729, .bipush 121, 2)) rfl
theorem dX16_init_1731 : decode cX16_init 1731 = .ok (.bipush 13, 2) := dk_get daX16_init_c3 271 (r := (1731, .bipush 13, 2)) rfl
theorem dX16_init_1733 : decode cX16_init 1733 = .ok (.iastore, 1) := dk_get daX16_init_c3 272 (r := (1733, .iastore, 1)) rfl
theorem dX16_init_1734 : decode cX16_init 1734 = .ok (.dup, 1) := dk_get daX16_init_c3 273 (r := (1734, .dup, 1)) rfl
theorem dX16_init_1735 : decode cX16_init 1735 = .ok (.bipush 122, 2) := dk_get daX16_init_c3 274 (r := (1735, .bipush 122, 2)) rfl
theorem dX16_init_1737 : decode cX16_init 1737 = .ok (.iconst 5, 1) := dk_get daX16_init_c3 275 (r := (1737, .iconst 5, 1)) rfl
theorem dX16_init_1738 : decode cX16_init 1738 = .ok (.iastore, 1) := dk_get daX16_init_c3 276 (r := (1738, .iastore, 1)) rfl
theorem dX16_init_1739 : decode cX16_init 1739 = .ok (.dup, 1) := dk_get daX16_init_c3 277 (r := (1739, .dup, 1)) rfl
theorem dX16_init_1740 : decode cX16_init 1740 = .ok (.bipush 123, 2) := dk_get daX16_init_c3 278 (r := (1740, .bipush 123, 2)) rfl
theorem dX16_init_1742 : decode cX16_init 1742 = .ok (.bipush 14, 2) := dk_get daX16_init_c3 279 (r := (1742, .bipush 14, 2)) rfl
theorem dX16_init_1744 : decode cX16_init 1744 = .ok (.iastore, 1) := dk_get daX16_init_c3 280 (r := (1744, .iastore, 1)) rfl
theorem dX16_init_1745 : decode cX16_init 1745 = .ok (.dup, 1) := dk_get daX16_init_c3 281 (r := (1745, .dup, 1)) rfl
theorem dX16_init_1746 : decode cX16_init 1746 = .ok (.bipush 124, 2) := dk_get daX16_init_c3 282 (r := (1746, .bipush 124, 2)) rfl
theorem dX16_init_1748 : decode cX16_init 1748 = .ok (.bipush 13, 2) := dk_get daX16_init_c3 283 (r := (1748, .bipush 13, 2)) rfl
theorem dX16_init_1750 : decode cX16_init 1750 = .ok (.iastore, 1) := dk_get daX16_init_c3 284 (r := (1750, .iastore, 1)) rfl
theorem dX16_init_1751 : decode cX16_init 1751 = .ok (.dup, 1) := dk_get daX16_init_c3 285 (r := (1751, .dup, 1)) rfl
theorem dX16_init_1752 : decode cX16_init 1752 = .ok (.bipush 125, 2) := dk_get daX16_init_c3 286 (r := (1752, .bipush 125, 2)) rfl
theorem dX16_init_1754 : decode cX16_init 1754 = .ok (.bipush 13, 2) := dk_get daX16_init_c3 287 (r := (1754, .bipush 13, 2)) rfl
theorem dX16_init_1756 : decode cX16_init 1756 = .ok (.iastore, 1) := dk_get daX16_init_c3 288 (r := (1756, .iastore, 1)) rfl
theorem dX16_init_1757 : decode cX16_init 1757 = .ok (.dup, 1) := dk_get daX16_init_c3 289 (r := (1757, .dup, 1)) rfl
theorem dX16_init_1758 : decode cX16_init 1758 = .ok (.bipush 126, 2) := dk_get daX16_init_c3 290 (r := (1758, .bipush 126, 2)) rfl
theorem dX16_init_1760 : decode cX16_init 1760 = .ok (.bipush 7, 2) := dk_get daX16_init_c3 291 (r := (1760, .bipush 7, 2)) rfl
theorem dX16_init_1762 : decode cX16_init 1762 = .ok (.iastore, 1) := dk_get daX16_init_c3 292 (r := (1762, .iastore, 1)) rfl
theorem dX16_init_1763 : decode cX16_init 1763 = .ok (.dup, 1) := dk_get daX16_init_c3 293 (r := (1763, .dup, 1)) rfl
theorem dX16_init_1764 : decode cX16_init 1764 = .ok (.bipush 127, 2) := dk_get daX16_init_c3 294 (r := (1764, .bipush 127, 2)) rfl
theorem dX16_init_1766 : decode cX16_init 1766 = .ok (.iconst 5, 1) := dk_get daX16_init_c3 295 (r := (1766, .iconst 5, 1)) rfl
theorem dX16_init_1767 : decode cX16_init 1767 = .ok (.iastore, 1) := dk_get daX16_init_c3 296 (r := (1767, .iastore, 1)) rfl
theorem dX16_init_1768 : decode cX16_init 1768 = .ok (.dup, 1) := dk_get daX16_init_c3 297 (r := (1768, .dup, 1)) rfl
theorem dX16_init_1769 : decode cX16_init 1769 = .ok (.sipush 128, 3) := dk_get daX16_init_c3 298 (r := (1769, .sipush 128, 3)) rfl
theorem dX16_init_1772 : decode cX16_init 1772 = .ok (.bipush 15, 2) := dk_get daX16_init_c3 299 (r := (1772, .bipush 15, 2)) rfl
def drX16_init_c4 : List (Nat × Instr × Nat) := [(1774, .iastore, 1), (1775, .dup, 1), (1776, .sipush 129, 3), (1779, .iconst 5, 1), (1780, .iastore, 1), (1781, .dup, 1), (1782, .sipush 130, 3), (1785, .bipush 8, 2), (1787, .iastore, 1), (1788, .dup, 1), (1789, .sipush 131, 3), (1792, .bipush 11, 2), (1794, .iastore, 1), (1795, .dup, 1), (1796, .sipush 132, 3), (1799, .bipush 14, 2), (1801, .iastore, 1), (1802, .dup, 1), (1803, .sipush 133, 3), (1806, .bipush 14, 2), (1808, .iastore, 1), (1809, .dup, 1), (1810, .sipush 134, 3), (1813, .bipush 6, 2), (1815, .iastore, 1), (1816, .dup, 1), (1817, .sipush 135, 3), (1820, .bipush 14, 2), (1822, .iastore, 1), (1823, .dup, 1), (1824, .sipush 136, 3), (1827, .bipush 6, 2), (1829, .iastore, 1), (1830, .dup, 1), (1831, .sipush 137, 3), (1834, .bipush 9, 2), (1836, .iastore, 1), (1837, .dup, 1), (1838, .sipush 138, 3), (1841, .bipush 12, 2), (1843, .iastore, 1), (1844, .dup, 1), (1845, .sipush 139, 3), (1848, .bipush 9, 2), (1850, .iastore, 1), (1851, .dup, 1), (1852, .sipush 140, 3), (1855, .bipush 12, 2), (1857, .iastore, 1), (1858, .dup, 1), (1859, .sipush 141, 3), (1862, .iconst 5, 1), (1863, .iastore, 1), (1864, .dup, 1), (1865, .sipush 142, 3), (1868, .bipush 15, 2), (1870, .iastore, 1), (1871, .dup, 1), (1872, .sipush 143, 3), (1875, .bipush 8, 2), (1877, .iastore, 1), (1878, .dup, 1), (1879, .sipush 144, 3), (1882, .bipush 8, 2), (1884, .iastore, 1), (1885, .dup, 1), (1886, .sipush 145, 3), (1889, .iconst 5, 1), (1890, .iastore, 1), (1891, .dup, 1), (1892, .sipush 146, 3), (1895, .bipush 12, 2), (1897, .iastore, 1), (1898, .dup, 1), (1899, .sipush 147, 3), (1902, .bipush 9, 2), (1904, .iastore, 1), (1905, .dup, 1), (1906, .sipush 148, 3), (1909, .bipush 12, 2), (1911, .iastore, 1), (1912, .dup, 1), (1913, .sipush 149, 3), (1916, .iconst 5, 1), (1917, .iastore, 1), (1918, .dup, 1), (1919, .sipush 150, 3), (1922, .bipush 14, 2), (1924, .iastore, 1), (1925, .dup, 1), (1926, .sipush 151, 3), (1929, .bipush 6, 2), (1931, .iastore, 1), (1932, .dup, 1), (1933, .sipush 152, 3), (1936, .bipush 8, 2), (1938, .iastore, 1), (1939, .dup, 1), (1940, .sipush 153, 3), (1943, .bipush 13, 2), (1945, .iastore, 1), (1946, .dup, 1), (1947, .sipush 154, 3), (1950, .bipush 6, 2), (1952, .iastore, 1), (1953, .dup, 1), (1954, .sipush 155, 3), (1957, .iconst 5, 1), (1958, .iastore, 1), (1959, .dup, 1), (1960, .sipush 156, 3), (1963, .bipush 15, 2), (1965, .iastore, 1), (1966, .dup, 1), (1967, .sipush 157, 3), (1970, .bipush 13, 2), (1972, .iastore, 1), (1973, .dup, 1), (1974, .sipush 158, 3), (1977, .bipush 11, 2), (1979, .iastore, 1), (1980, .dup, 1), (1981, .sipush 159, 3), (1984, .bipush 11, 2), (1986, .iastore, 1), (1987, .putfield 77, 3), (1990, .aload_n 0, 1), (1991, .bipush 10, 2), (1993, .newarray .int, 2), (1995, .dup, 1), (1996, .iconst 0, 1), (1997, .iconst 0, 1), (1998, .iastore, 1), (1999, .dup, 1), (2000, .iconst 1, 1), (2001, .ldc_w 776, 3), (2004, .iastore, 1), (2005, .dup, 1), (2006, .iconst 2, 1), (2007, .ldc_w 777, 3), (2010, .iastore, 1), (2011, .dup, 1), (2012, .iconst 3, 1), (2013, .ldc_w 778, 3), (2016, .iastore, 1), (2017, .dup, 1), (2018, .iconst 4, 1), (2019, .ldc_w 779, 3), (2022, .iastore, 1), (2023, .dup, 1), (2024, .iconst 5, 1), (2025, .ldc_w 780, 3), (2028, .iastore, 1), (2029, .dup, 1), (2030, .bipush 6, 2), (2032, .ldc_w 781, 3), (2035, .iastore, 1), (2036, .dup, 1), (2037, .bipush 7, 2), (2039, .ldc_w 782, 3), (2042, .iastore, 1), (2043, .dup, 1), (2044, .bipush 8, 2), (2046, .ldc_w 783, 3), (2049, .iastore, 1), (2050, .dup, 1), (2051, .bipush 9, 2), (2053, .iconst 0, 1), (2054, .iastore, 1), (2055, .putfield 67, 3), (2058, .aload_n 0, 1), (2059, .iconst 5, 1), (2060, .newarray .int, 2), (2062, .putfield 61, 3), (2065, .aload_n 0, 1), (2066, .iconst 5, 1), (2067, .newarray .int, 2), (2069, .putfield 64, 3), (2072, .aload_n 0, 1), (2073, .bipush 32, 2), (2075, .newarray .byte, 2), (2077, .putfield 80, 3), (2080, .aload_n 0, 1), (2081, .bipush 8, 2), (2083, .newarray .int, 2), (2085, .putfield 176, 3), (2088, .aload_n 0, 1), (2089, .new 91, 3), (2092, .dup, 1), (2093, .invokespecial 784, 3), (2096, .putfield 225, 3), (2099, .aload_n 0, 1), (2100, .new 91, 3), (2103, .dup, 1), (2104, .invokespecial 784, 3), (2107, .putfield 169, 3), (2110, .aload_n 0, 1), (2111, .new 91, 3), (2114, .dup, 1), (2115, .invokespecial 784, 3), (2118, .putfield 228, 3), (2121, .aload_n 0, 1), (2122, .new 91, 3), (2125, .dup, 1), (2126, .invokespecial 784, 3), (2129, .putfield 234, 3), (2132, .aload_n 0, 1), (2133, .bipush 8, 2), (2135, .newarray .int, 2), (2137, .putfield 108, 3), (2140, .aload_n 0, 1), (2141, .bipush 8, 2), (2143, .newarray .int, 2), (2145, .putfield 118, 3), (2148, .aload_n 0, 1), (2149, .bipush 8, 2), (2151, .newarray .int, 2), (2153, .putfield 124, 3), (2156, .aload_n 0, 1), (2157, .bipush 8, 2), (2159, .newarray .int, 2), (2161, .putfield 127, 3), (2164, .aload_n 0, 1), (2165, .bipush 8, 2), (2167, .newarray .int, 2), (2169, .putfield 130, 3), (2172, .aload_n 0, 1), (2173, .bipush 8, 2), (2175, .newarray .int, 2), (2177, .putfield 785, 3), (2180, .aload_n 0, 1), (2181, .bipush 8, 2), (2183, .newarray .int, 2), (2185, .putfield 155, 3), (2188, .aload_n 0, 1), (2189, .bipush 8, 2), (2191, .newarray .int, 2), (2193, .putfield 185, 3), (2196, .aload_n 0, 1), (2197, .bipush 8, 2), (2199, .newarray .int, 2), (2201, .putfield 203, 3), (2204, .aload_n 0, 1), (2205, .bipush 8, 2), (2207, .newarray .int, 2), (2209, .putfield 210, 3), (2212, .aload_n 0, 1), (2213, .bipush 8, 2), (2215, .newarray .int, 2), (2217, .putfield 216, 3), (2220, .aload_n 0, 1), (2221, .bipush 8, 2), (2223, .newarray .int, 2), (2225, .putfield 219, 3), (2228, .aload_n 0, 1), (2229, .bipush 8, 2), (2231, .newarray .int, 2), (2233, .putfield 222, 3), (2236, .aload_n 0, 1), (2237, .bipush 32, 2), (2239, .newarray .byte, 2), (2241, .putfield 213, 3), (2244, .aload_n 0, 1), (2245, .bipush 8, 2), (2247, .newarray .int, 2), (2249, .putfield 387, 3), (2252, .aload_n 0, 1), (2253, .bipush 8, 2), (2255, .newarray .int, 2), (2257, .putfield 342, 3), (2260, .aload_n 0, 1), (2261, .bipush 8, 2), (2263, .newarray .int, 2), (2265, .putfield 338, 3), (2268, .aload_n 0, 1), (2269, .bipush 8, 2), (2271, .newarray .int, 2), (2273, .putfield 339, 3), (2276, .aload_n 0, 1), (2277, .bipush 61, 2), (2279, .anewarray 352, 3), (2282, .putfield 347, 3), (2285, .aload_n 0, 1), (2286, .sipush 512, 3), (2289, .newarray .int, 2), (2291, .putfield 500, 3), (2294, .aload_n 0, 1), (2295, .sipush 2300, 3), (2298, .newarray .int, 2), (2300, .putfield 461, 3), (2303, .aload_n 0, 1), (2304, .bipush 11, 2), (2306, .newarray .long, 2), (2308, .putfield 361, 3), (2311, .aload_n 0, 1), (2312, .bipush 10, 2), (2314, .newarray .int, 2), (2316, .putfield 382, 3), (2319, .aload_n 0, 1), (2320, .new 276, 3)]
set_option maxRecDepth 100000 in
theorem daX16_init_c4 : dk_all cX16_init drX16_init_c4 = true := by decide +kernel
theorem dX16_init_1774 : decode cX16_init 1774 = .ok (.iastore, 1) := dk_get daX16_init_c4 0 (r := (1774, .iastore, 1)) rfl
theorem dX16_init_1775 : decode cX16_init 1775 = .ok (.dup, 1) := dk_get daX16_init_c4 1 (r := (1775, .dup, 1)) rfl
theorem dX16_init_1776 : decode cX16_init 1776 = .ok (.sipush 129, 3) := dk_get daX16_init_c4 2 (r := (1776, .sipush 129, 3)) rfl
theorem dX16_init_1779 : decode cX16_init 1779 = .ok (.iconst 5, 1) := dk_get daX16_init_c4 3 (r := (1779, .iconst 5, 1)) rfl
theorem dX16_init_1780 : decode cX16_init 1780 = .ok (.iastore, 1) := dk_get daX16_init_c4 4 (r := (1780, .iastore, 1)) rfl
theorem dX16_init_1781 : decode cX16_init 1781 = .ok (.dup, 1) := dk_get daX16_init_c4 5 (r := (1781, .dup, 1)) rfl
theorem dX16_init_1782 : decode cX16_init 1782 = .ok (.sipush 130, 3) := dk_get daX16_init_c4 6 (r := (1782, .sipush 130, 3)) rfl
theorem dX16_init_1785 : decode cX16_init 1785 = .ok (.bipush 8, 2) := dk_get daX16_init_c4 7 (r := (1785, .bipush 8, 2)) rfl
theorem dX16_init_1787 : decode cX16_init 1787 = .ok (.iastore, 1) := dk_get daX16_init_c4 8 (r := (1787, .iastore, 1)) rfl
theorem dX16_init_1788 : decode cX16_init 1788 = .ok (.dup, 1) := dk_get daX16_init_c4 9 (r := (1788, .dup, 1)) rfl
theorem dX16_init_1789 : decode cX16_init 1789 = .ok (.sipush 131, 3) := dk_get daX16_init_c4 10 (r := (1789, .sipush 131, 3)) rfl
theorem dX16_init_1792 : decode cX16_init 1792 = .ok (.bipush 11, 2) := dk_get daX16_init_c4 11 (r := (1792, .bipush 11, 2)) rfl
theorem dX16_init_1794 : decode cX16_init 1794 = .ok (.iastore, 1) := dk_get daX16_init_c4 12 (r := (1794, .iastore, 1)) rfl
theorem dX16_init_1795 : decode cX16_init 1795 = .ok (.dup, 1) := dk_get daX16_init_c4 13 (r := (1795, .dup, 1)) rfl
theorem dX16_init_1796 : decode cX16_init 1796 = .ok (.sipush 132, 3) := dk_get daX16_init_c4 14 (r := (1796, .sipush 132, 3)) rfl
theorem dX16_init_1799 : decode cX16_init 1799 = .ok (.bipush 14, 2) := dk_get daX16_init_c4 15 (r := (1799, .bipush 14, 2)) rfl
theorem dX16_init_1801 : decode cX16_init 1801 = .ok (.iastore, 1) := dk_get daX16_init_c4 16 (r := (1801, .iastore, 1)) rfl
theorem dX16_init_1802 : decode cX16_init 1802 = .ok (.dup, 1) := dk_get daX16_init_c4 17 (r := (1802, .dup, 1)) rfl
theorem dX16_init_1803 : decode cX16_init 1803 = .ok (.sipush 133, 3) := dk_get daX16_init_c4 18 (r := (1803, .sipush 133, 3)) rfl
theorem dX16_init_1806 : decode cX16_init 1806 = .ok (.bipush 14, 2) := dk_get daX16_init_c4 19 (r := (1806, .bipush 14, 2)) rfl
theorem dX16_init_1808 : decode cX16_init 1808 = .ok (.iastore, 1) := dk_get daX16_init_c4 20 (r := (1808, .iastore, 1)) rfl
theorem dX16_init_1809 : decode cX16_init 1809 = .ok (.dup, 1) := dk_get daX16_init_c4 21 (r := (1809, .dup, 1)) rfl
theorem dX16_init_1810 : decode cX16_init 1810 = .ok (.sipush 134, 3) := dk_get daX16_init_c4 22 (r := (1810, .sipush 134, 3)) rfl
theorem dX16_init_1813 : decode cX16_init 1813 = .ok (.bipush 6, 2) := dk_get daX16_init_c4 23 (r := (1813, .bipush 6, 2)) rfl
theorem dX16_init_1815 : decode cX16_init 1815 = .ok (.iastore, 1) := dk_get daX16_init_c4 24 (r := (1815, .iastore, 1)) rfl
theorem dX16_init_1816 : decode cX16_init 1816 = .ok (.dup, 1) := dk_get daX16_init_c4 25 (r := (1816, .dup, 1)) rfl
theorem dX16_init_1817 : decode cX16_init 1817 = .ok (.sipush 135, 3) := dk_get daX16_init_c4 26 (r := (1817, .sipush 135, 3)) rfl
theorem dX16_init_1820 : decode cX16_init 1820 = .ok (.bipush 14, 2) := dk_get daX16_init_c4 27 (r := (1820, .bipush 14, 2)) rfl
theorem dX16_init_1822 : decode cX16_init 1822 = .ok (.iastore, 1) := dk_get daX16_init_c4 28 (r := (1822, .iastore, 1)) rfl
theorem dX16_init_1823 : decode cX16_init 1823 = .ok (.dup, 1) := dk_get daX16_init_c4 29 (r := (1823, .dup, 1)) rfl
theorem dX16_init_1824 : decode cX16_init 1824 = .ok (.sipush 136, 3) := dk_get daX16_init_c4 30 (r := (1824, .sipush 136, 3)) rfl
theorem dX16_init_1827 : decode cX16_init 1827 = .ok (.bipush 6, 2) := dk_get daX16_init_c4 31 (r := (1827, .bipush 6, 2)) rfl
theorem dX16_init_1829 : decode cX16_init 1829 = .ok (.iastore, 1) := dk_get daX16_init_c4 32 (r := (1829, .iastore, 1)) rfl
theorem dX16_init_1830 : decode cX16_init 1830 = .ok (.dup, 1) := dk_get daX16_init_c4 33 (r := (1830, .dup, 1)) rfl
theorem dX16_init_1831 : decode cX16_init 1831 = .ok (.sipush 137, 3) := dk_get daX16_init_c4 34 (r := (1831, .sipush 137, 3)) rfl
theorem dX16_init_1834 : decode cX16_init 1834 = .ok (.bipush 9, 2) := dk_get daX16_init_c4 35 (r := (1834, .bipush 9, 2)) rfl
theorem dX16_init_1836 : decode cX16_init 1836 = .ok (.iastore, 1) := dk_get daX16_init_c4 36 (r := (1836, .iastore, 1)) rfl
theorem dX16_init_1837 : decode cX16_init 1837 = .ok (.dup, 1) := dk_get daX16_init_c4 37 (r := (1837, .dup, 1)) rfl
theorem dX16_init_1838 : decode cX16_init 1838 = .ok (.sipush 138, 3) := dk_get daX16_init_c4 38 (r := (1838, .sipush 138, 3)) rfl
theorem dX16_init_1841 : decode cX16_init 1841 = .ok (.bipush 12, 2) := dk_get daX16_init_c4 39 (r := (1841, .bipush 12, 2)) rfl
theorem dX16_init_1843 : decode cX16_init 1843 = .ok (.iastore, 1) := dk_get daX16_init_c4 40 (r := (1843, .iastore, 1)) rfl
theorem dX16_init_1844 : decode cX16_init 1844 = .ok (.dup, 1) := dk_get daX16_init_c4 41 (r := (1844, .dup, 1)) rfl
theorem dX16_init_1845 : decode cX16_init 1845 = .ok (.sipush 139, 3) := dk_get daX16_init_c4 42 (r := (1845, .sipush 139, 3)) rfl
theorem dX16_init_1848 : decode cX16_init 1848 = .ok (.bipush 9, 2) := dk_get daX16_init_c4 43 (r := (1848, .bipush 9, 2)) rfl
theorem dX16_init_1850 : decode cX16_init 1850 = .ok (.iastore, 1) := dk_get daX16_init_c4 44 (r := (1850, .iastore, 1)) rfl
theorem dX16_init_1851 : decode cX16_init 1851 = .ok (.dup, 1) := dk_get daX16_init_c4 45 (r := (1851, .dup, 1)) rfl
theorem dX16_init_1852 : decode cX16_init 1852 = .ok (.sipush 140, 3) := dk_get daX16_init_c4 46 (r := (1852, .sipush 140, 3)) rfl
theorem dX16_init_1855 : decode cX16_init 1855 = .ok (.bipush 12, 2) := dk_get daX16_init_c4 47 (r := (1855, .bipush 12, 2)) rfl
theorem dX16_init_1857 : decode cX16_init 1857 = .ok (.iastore, 1) := dk_get daX16_init_c4 48 (r := (1857, .iastore, 1)) rfl
theorem dX16_init_1858 : decode cX16_init 1858 = .ok (.dup, 1) := dk_get daX16_init_c4 49 (r := (1858, .dup, 1)) rfl
theorem dX16_init_1859 : decode cX16_init 1859 = .ok (.sipush 141, 3) := dk_get daX16_init_c4 50 (r := (1859, .sipush 141, 3)) rfl
theorem dX16_init_1862 : decode cX16_init 1862 = .ok (.iconst 5, 1) := dk_get daX16_init_c4 51 (r := (1862, .iconst 5, 1)) rfl
theorem dX16_init_1863 : decode cX16_init 1863 = .ok (.iastore, 1) := dk_get daX16_init_c4 52 (r := (1863, .iastore, 1)) rfl
theorem dX16_init_1864 : decode cX16_init 1864 = .ok (.dup, 1) := dk_get daX16_init_c4 53 (r := (1864, .dup, 1)) rfl
theorem dX16_init_1865 : decode cX16_init 1865 = .ok (.sipush 142, 3) := dk_get daX16_init_c4 54 (r := (1865, .sipush 142, 3)) rfl
theorem dX16_init_1868 : decode cX16_init 1868 = .ok (.bipush 15, 2) := dk_get daX16_init_c4 55 (r := (1868, .bipush 15, 2)) rfl
theorem dX16_init_1870 : decode cX16_init 1870 = .ok (.iastore, 1) := dk_get daX16_init_c4 56 (r := (1870, .iastore, 1)) rfl
theorem dX16_init_1871 : decode cX16_init 1871 = .ok (.dup, 1) := dk_get daX16_init_c4 57 (r := (1871, .dup, 1)) rfl
theorem dX16_init_1872 : decode cX16_init 1872 = .ok (.sipush 143, 3) := dk_get daX16_init_c4 58 (r := (1872, .sipush 143, 3)) rfl
theorem dX16_init_1875 : decode cX16_init 1875 = .ok (.bipush 8, 2) := dk_get daX16_init_c4 59 (r := (1875, .bipush 8, 2)) rfl
theorem dX16_init_1877 : decode cX16_init 1877 = .ok (.iastore, 1) := dk_get daX16_init_c4 60 (r := (1877, .iastore, 1)) rfl
theorem dX16_init_1878 : decode cX16_init 1878 = .ok (.dup, 1) := dk_get daX16_init_c4 61 (r := (1878, .dup, 1)) rfl
theorem dX16_init_1879 : decode cX16_init 1879 = .ok (.sipush 144, 3) := dk_get daX16_init_c4 62 (r := (1879, .sipush 144, 3)) rfl
theorem dX16_init_1882 : decode cX16_init 1882 = .ok (.bipush 8, 2) := dk_get daX16_init_c4 63 (r := (1882, .bipush 8, 2)) rfl
theorem dX16_init_1884 : decode cX16_init 1884 = .ok (.iastore, 1) := dk_get daX16_init_c4 64 (r := (1884, .iastore, 1)) rfl
theorem dX16_init_1885 : decode cX16_init 1885 = .ok (.dup, 1) := dk_get daX16_init_c4 65 (r := (1885, .dup, 1)) rfl
theorem dX16_init_1886 : decode cX16_init 1886 = .ok (.sipush 145, 3) := dk_get daX16_init_c4 66 (r := (1886, .sipush 145, 3)) rfl
theorem dX16_init_1889 : decode cX16_init 1889 = .ok (.iconst 5, 1) := dk_get daX16_init_c4 67 (r := (1889, .iconst 5, 1)) rfl
theorem dX16_init_1890 : decode cX16_init 1890 = .ok (.iastore, 1) := dk_get daX16_init_c4 68 (r := (1890, .iastore, 1)) rfl
theorem dX16_init_1891 : decode cX16_init 1891 = .ok (.dup, 1) := dk_get daX16_init_c4 69 (r := (1891, .dup, 1)) rfl
theorem dX16_init_1892 : decode cX16_init 1892 = .ok (.sipush 146, 3) := dk_get daX16_init_c4 70 (r := (1892, .sipush 146, 3)) rfl
theorem dX16_init_1895 : decode cX16_init 1895 = .ok (.bipush 12, 2) := dk_get daX16_init_c4 71 (r := (1895, .bipush 12, 2)) rfl
theorem dX16_init_1897 : decode cX16_init 1897 = .ok (.iastore, 1) := dk_get daX16_init_c4 72 (r := (1897, .iastore, 1)) rfl
theorem dX16_init_1898 : decode cX16_init 1898 = .ok (.dup, 1) := dk_get daX16_init_c4 73 (r := (1898, .dup, 1)) rfl
theorem dX16_init_1899 : decode cX16_init 1899 = .ok (.sipush 147, 3) := dk_get daX16_init_c4 74 (r := (1899, .sipush 147, 3)) rfl
theorem dX16_init_1902 : decode cX16_init 1902 = .ok (.bipush 9, 2) := dk_get daX16_init_c4 75 (r := (1902, .bipush 9, 2)) rfl
theorem dX16_init_1904 : decode cX16_init 1904 = .ok (.iastore, 1) := dk_get daX16_init_c4 76 (r := (1904, .iastore, 1)) rfl
theorem dX16_init_1905 : decode cX16_init 1905 = .ok (.dup, 1) := dk_get daX16_init_c4 77 (r := (1905, .dup, 1)) rfl
theorem dX16_init_1906 : decode cX16_init 1906 = .ok (.sipush 148, 3) := dk_get daX16_init_c4 78 (r := (1906, .sipush 148, 3)) rfl
theorem dX16_init_1909 : decode cX16_init 1909 = .ok (.bipush 12, 2) := dk_get daX16_init_c4 79 (r := (1909, .bipush 12, 2)) rfl
theorem dX16_init_1911 : decode cX16_init 1911 = .ok (.iastore, 1) := dk_get daX16_init_c4 80 (r := (1911, .iastore, 1)) rfl
theorem dX16_init_1912 : decode cX16_init 1912 = .ok (.dup, 1) := dk_get daX16_init_c4 81 (r := (1912, .dup, 1)) rfl
theorem dX16_init_1913 : decode cX16_init 1913 = .ok (.sipush 149, 3) := dk_get daX16_init_c4 82 (r := (1913, .sipush 149, 3)) rfl
theorem dX16_init_1916 : decode cX16_init 1916 = .ok (.iconst 5, 1) := dk_get daX16_init_c4 83 (r := (1916, .iconst 5, 1)) rfl
theorem dX16_init_1917 : decode cX16_init 1917 = .ok (.iastore, 1) := dk_get daX16_init_c4 84 (r := (1917, .iastore, 1)) rfl
theorem dX16_init_1918 : decode cX16_init 1918 = .ok (.dup, 1) := dk_get daX16_init_c4 85 (r := (1918, .dup, 1)) rfl
theorem dX16_init_1919 : decode cX16_init 1919 = .ok (.sipush 150, 3) := dk_get daX16_init_c4 86 (r := (1919, .sipush 150, 3)) rfl
theorem dX16_init_1922 : decode cX16_init 1922 = .ok (.bipush 14, 2) := dk_get daX16_init_c4 87 (r := (1922, .bipush 14, 2)) rfl
theorem dX16_init_1924 : decode cX16_init 1924 = .ok (.iastore, 1) := dk_get daX16_init_c4 88 (r := (1924, .iastore, 1)) rfl
theorem dX16_init_1925 : decode cX16_init 1925 = .ok (.dup, 1) := dk_get daX16_init_c4 89 (r := (1925, .dup, 1)) rfl
theorem dX16_init_1926 : decode cX16_init 1926 = .ok (.sipush 151, 3) := dk_get daX16_init_c4 90 (r := (1926, .sipush 151, 3)) rfl
theorem dX16_init_1929 : decode cX16_init 1929 = .ok (.bipush 6, 2) := dk_get daX16_init_c4 91 (r := (1929, .bipush 6, 2)) rfl
theorem dX16_init_1931 : decode cX16_init 1931 = .ok (.iastore, 1) := dk_get daX16_init_c4 92 (r := (1931, .iastore, 1)) rfl
theorem dX16_init_1932 : decode cX16_init 1932 = .ok (.dup, 1) := dk_get daX16_init_c4 93 (r := (1932, .dup, 1)) rfl
theorem dX16_init_1933 : decode cX16_init 1933 = .ok (.sipush 152, 3) := dk_get daX16_init_c4 94 (r := (1933, .sipush 152, 3)) rfl
theorem dX16_init_1936 : decode cX16_init 1936 = .ok (.bipush 8, 2) := dk_get daX16_init_c4 95 (r := (1936, .bipush 8, 2)) rfl
theorem dX16_init_1938 : decode cX16_init 1938 = .ok (.iastore, 1) := dk_get daX16_init_c4 96 (r := (1938, .iastore, 1)) rfl
theorem dX16_init_1939 : decode cX16_init 1939 = .ok (.dup, 1) := dk_get daX16_init_c4 97 (r := (1939, .dup, 1)) rfl
theorem dX16_init_1940 : decode cX16_init 1940 = .ok (.sipush 153, 3) := dk_get daX16_init_c4 98 (r := (1940, .sipush 153, 3)) rfl
theorem dX16_init_1943 : decode cX16_init 1943 = .ok (.bipush 13, 2) := dk_get daX16_init_c4 99 (r := (1943, .bipush 13, 2)) rfl
theorem dX16_init_1945 : decode cX16_init 1945 = .ok (.iastore, 1) := dk_get daX16_init_c4 100 (r := (1945, .iastore, 1)) rfl
theorem dX16_init_1946 : decode cX16_init 1946 = .ok (.dup, 1) := dk_get daX16_init_c4 101 (r := (1946, .dup, 1)) rfl
theorem dX16_init_1947 : decode cX16_init 1947 = .ok (.sipush 154, 3) := dk_get daX16_init_c4 102 (r := (1947, .sipush 154, 3)) rfl
theorem dX16_init_1950 : decode cX16_init 1950 = .ok (.bipush 6, 2) := dk_get daX16_init_c4 103 (r := (1950, .bipush 6, 2)) rfl
theorem dX16_init_1952 : decode cX16_init 1952 = .ok (.iastore, 1) := dk_get daX16_init_c4 104 (r := (1952, .iastore, 1)) rfl
theorem dX16_init_1953 : decode cX16_init 1953 = .ok (.dup, 1) := dk_get daX16_init_c4 105 (r := (1953, .dup, 1)) rfl
theorem dX16_init_1954 : decode cX16_init 1954 = .ok (.sipush 155, 3) := dk_get daX16_init_c4 106 (r := (1954, .sipush 155, 3)) rfl
theorem dX16_init_1957 : decode cX16_init 1957 = .ok (.iconst 5, 1) := dk_get daX16_init_c4 107 (r := (1957, .iconst 5, 1)) rfl
theorem dX16_init_1958 : decode cX16_init 1958 = .ok (.iastore, 1) := dk_get daX16_init_c4 108 (r := (1958, .iastore, 1)) rfl
theorem dX16_init_1959 : decode cX16_init 1959 = .ok (.dup, 1) := dk_get daX16_init_c4 109 (r := (1959, .dup, 1)) rfl
theorem dX16_init_1960 : decode cX16_init 1960 = .ok (.sipush 156, 3) := dk_get daX16_init_c4 110 (r := (1960, .sipush 156, 3)) rfl
theorem dX16_init_1963 : decode cX16_init 1963 = .ok (.bipush 15, 2) := dk_get daX16_init_c4 111 (r := (1963, .bipush 15, 2)) rfl
theorem dX16_init_1965 : decode cX16_init 1965 = .ok (.iastore, 1) := dk_get daX16_init_c4 112 (r := (1965, .iastore, 1)) rfl
theorem dX16_init_1966 : decode cX16_init 1966 = .ok (.dup, 1) := dk_get daX16_init_c4 113 (r := (1966, .dup, 1)) rfl
theorem dX16_init_1967 : decode cX16_init 1967 = .ok (.sipush 157, 3) := dk_get daX16_init_c4 114 (r := (1967, .sipush 157, 3)) rfl
theorem dX16_init_1970 : decode cX16_init 1970 = .ok (.bipush 13, 2) := dk_get daX16_init_c4 115 (r := (1970, .bipush 13, 2)) rfl
theorem dX16_init_1972 : decode cX16_init 1972 = .ok (.iastore, 1) := dk_get daX16_init_c4 116 (r := (1972, .iastore, 1)) rfl
theorem dX16_init_1973 : decode cX16_init 1973 = .ok (.dup, 1) := dk_get daX16_init_c4 117 (r := (1973, .dup, 1)) rfl
theorem dX16_init_1974 : decode cX16_init 1974 = .ok (.sipush 158, 3) := dk_get daX16_init_c4 118 (r := (1974, .sipush 158, 3)) rfl
theorem dX16_init_1977 : decode cX16_init 1977 = .ok (.bipush 11, 2) := dk_get daX16_init_c4 119 (r := (1977, .bipush 11, 2)) rfl
theorem dX16_init_1979 : decode cX16_init 1979 = .ok (.iastore, 1) := dk_get daX16_init_c4 120 (r := (1979, .iastore, 1)) rfl
theorem dX16_init_1980 : decode cX16_init 1980 = .ok (.dup, 1) := dk_get daX16_init_c4 121 (r := (1980, .dup, 1)) rfl
theorem dX16_init_1981 : decode cX16_init 1981 = .ok (.sipush 159, 3) := dk_get daX16_init_c4 122 (r := (1981, .sipush 159, 3)) rfl
theorem dX16_init_1984 : decode cX16_init 1984 = .ok (.bipush 11, 2) := dk_get daX16_init_c4 123 (r := (1984, .bipush 11, 2)) rfl
theorem dX16_init_1986 : decode cX16_init 1986 = .ok (.iastore, 1) := dk_get daX16_init_c4 124 (r := (1986, .iastore, 1)) rfl
theorem dX16_init_1987 : decode cX16_init 1987 = .ok (.putfield 77, 3) := dk_get daX16_init_c4 125 (r := (1987, .putfield 77, 3)) rfl
theorem dX16_init_1990 : decode cX16_init 1990 = .ok (.aload_n 0, 1) := dk_get daX16_init_c4 126 (r := (1990, .aload_n 0, 1)) rfl
theorem dX16_init_1991 : decode cX16_init 1991 = .ok (.bipush 10, 2) := dk_get daX16_init_c4 127 (r := (1991, .bipush 10, 2)) rfl
theorem dX16_init_1993 : decode cX16_init 1993 = .ok (.newarray .int, 2) := dk_get daX16_init_c4 128 (r := (1993, .newarray .int, 2)) rfl
theorem dX16_init_1995 : decode cX16_init 1995 = .ok (.dup, 1) := dk_get daX16_init_c4 129 (r := (1995, .dup, 1)) rfl
theorem dX16_init_1996 : decode cX16_init 1996 = .ok (.iconst 0, 1) := dk_get daX16_init_c4 130 (r := (1996, .iconst 0, 1)) rfl
theorem dX16_init_1997 : decode cX16_init 1997 = .ok (.iconst 0, 1) := dk_get daX16_init_c4 131 (r := (1997, .iconst 0, 1)) rfl
theorem dX16_init_1998 : decode cX16_init 1998 = .ok (.iastore, 1) := dk_get daX16_init_c4 132 (r := (1998, .iastore, 1)) rfl
theorem dX16_init_1999 : decode cX16_init 1999 = .ok (.dup, 1) := dk_get daX16_init_c4 133 (r := (1999, .dup, 1)) rfl
theorem dX16_init_2000 : decode cX16_init 2000 = .ok (.iconst 1, 1) := dk_get daX16_init_c4 134 (r := (2000, .iconst 1, 1)) rfl
theorem dX16_init_2001 : decode cX16_init 2001 = .ok (.ldc_w 776, 3) := dk_get daX16_init_c4 135 (r := (2001, .ldc_w 776, 3)) rfl
theorem dX16_init_2004 : decode cX16_init 2004 = .ok (.iastore, 1) := dk_get daX16_init_c4 136 (r := (2004, .iastore, 1)) rfl
theorem dX16_init_2005 : decode cX16_init 2005 = .ok (.dup, 1) := dk_get daX16_init_c4 137 (r := (2005, .dup, 1)) rfl
theorem dX16_init_2006 : decode cX16_init 2006 = .ok (.iconst 2, 1) := dk_get daX16_init_c4 138 (r := (2006, .iconst 2, 1)) rfl
theorem dX16_init_2007 : decode cX16_init 2007 = .ok (.ldc_w 777, 3) := dk_get daX16_init_c4 139 (r := (2007, .ldc_w 777, 3)) rfl
theorem dX16_init_2010 : decode cX16_init 2010 = .ok (.iastore, 1) := dk_get daX16_init_c4 140 (r := (2010, .iastore, 1)) rfl
theorem dX16_init_2011 : decode cX16_init 2011 = .ok (.dup, 1) := dk_get daX16_init_c4 141 (r := (2011, .dup, 1)) rfl
theorem dX16_init_2012 : decode cX16_init 2012 = .ok (.iconst 3, 1) := dk_get daX16_init_c4 142 (r := (2012, .iconst 3, 1)) rfl
theorem dX16_init_2013 : decode cX16_init 2013 = .ok (.ldc_w 778, 3) := dk_get daX16_init_c4 143 (r := (2013, .ldc_w 778, 3)) rfl
theorem dX16_init_2016 : decode cX16_init 2016 = .ok (.iastore, 1) := dk_get daX16_init_c4 144 (r := (2016, .iastore, 1)) rfl
theorem dX16_init_2017 : decode cX16_init 2017 = .ok (.dup, 1) := dk_get daX16_init_c4 145 (r := (2017, .dup, 1)) rfl
theorem dX16_init_2018 : decode cX16_init 2018 = .ok (.iconst 4, 1) := dk_get daX16_init_c4 146 (r := (2018, .iconst 4, 1)) rfl
theorem dX16_init_2019 : decode cX16_init 2019 = .ok (.ldc_w 779, 3) := dk_get daX16_init_c4 147 (r := (2019, .ldc_w 779, 3)) rfl
theorem dX16_init_2022 : decode cX16_init 2022 = .ok (.iastore, 1) := dk_get daX16_init_c4 148 (r := (2022, .iastore, 1)) rfl
theorem dX16_init_2023 : decode cX16_init 2023 = .ok (.dup, 1) := dk_get daX16_init_c4 149 (r := (2023, .dup, 1)) rfl
theorem dX16_init_2024 : decode cX16_init 2024 = .ok (.iconst 5, 1) := dk_get daX16_init_c4 150 (r := (2024, .iconst 5, 1)) rfl
theorem dX16_init_2025 : decode cX16_init 2025 = .ok (.ldc_w 780, 3) := dk_get daX16_init_c4 151 (r := (2025, .ldc_w 780, 3)) rfl
theorem dX16_init_2028 : decode cX16_init 2028 = .ok (.iastore, 1) := dk_get daX16_init_c4 152 (r := (2028, .iastore, 1)) rfl
theorem dX16_init_2029 : decode cX16_init 2029 = .ok (.dup, 1) := dk_get daX16_init_c4 153 (r := (2029, .dup, 1)) rfl
theorem dX16_init_2030 : decode cX16_init 2030 = .ok (.bipush 6, 2) := dk_get daX16_init_c4 154 (r := (2030, .bipush 6, 2)) rfl
theorem dX16_init_2032 : decode cX16_init 2032 = .ok (.ldc_w 781, 3) := dk_get daX16_init_c4 155 (r := (2032, .ldc_w 781, 3)) rfl
theorem dX16_init_2035 : decode cX16_init 2035 = .ok (.iastore, 1) := dk_get daX16_init_c4 156 (r := (2035, .iastore, 1)) rfl
theorem dX16_init_2036 : decode cX16_init 2036 = .ok (.dup, 1) := dk_get daX16_init_c4 157 (r := (2036, .dup, 1)) rfl
theorem dX16_init_2037 : decode cX16_init 2037 = .ok (.bipush 7, 2) := dk_get daX16_init_c4 158 (r := (2037, .bipush 7, 2)) rfl
theorem dX16_init_2039 : decode cX16_init 2039 = .ok (.ldc_w 782, 3) := dk_get daX16_init_c4 159 (r := (2039, .ldc_w 782, 3)) rfl
theorem dX16_init_2042 : decode cX16_init 2042 = .ok (.iastore, 1) := dk_get daX16_init_c4 160 (r := (2042, .iastore, 1)) rfl
theorem dX16_init_2043 : decode cX16_init 2043 = .ok (.dup, 1) := dk_get daX16_init_c4 161 (r := (2043, .dup, 1)) rfl
theorem dX16_init_2044 : decode cX16_init 2044 = .ok (.bipush 8, 2) := dk_get daX16_init_c4 162 (r := (2044, .bipush 8, 2)) rfl
theorem dX16_init_2046 : decode cX16_init 2046 = .ok (.ldc_w 783, 3) := dk_get daX16_init_c4 163 (r := (2046, .ldc_w 783, 3)) rfl
theorem dX16_init_2049 : decode cX16_init 2049 = .ok (.iastore, 1) := dk_get daX16_init_c4 164 (r := (2049, .iastore, 1)) rfl
theorem dX16_init_2050 : decode cX16_init 2050 = .ok (.dup, 1) := dk_get daX16_init_c4 165 (r := (2050, .dup, 1)) rfl
theorem dX16_init_2051 : decode cX16_init 2051 = .ok (.bipush 9, 2) := dk_get daX16_init_c4 166 (r := (2051, .bipush 9, 2)) rfl
theorem dX16_init_2053 : decode cX16_init 2053 = .ok (.iconst 0, 1) := dk_get daX16_init_c4 167 (r := (2053, .iconst 0, 1)) rfl
theorem dX16_init_2054 : decode cX16_init 2054 = .ok (.iastore, 1) := dk_get daX16_init_c4 168 (r := (2054, .iastore, 1)) rfl
theorem dX16_init_2055 : decode cX16_init 2055 = .ok (.putfield 67, 3) := dk_get daX16_init_c4 169 (r := (2055, .putfield 67, 3)) rfl
theorem dX16_init_2058 : decode cX16_init 2058 = .ok (.aload_n 0, 1) := dk_get daX16_init_c4 170 (r := (2058, .aload_n 0, 1)) rfl
theorem dX16_init_2059 : decode cX16_init 2059 = .ok (.iconst 5, 1) := dk_get daX16_init_c4 171 (r := (2059, .iconst 5, 1)) rfl
theorem dX16_init_2060 : decode cX16_init 2060 = .ok (.newarray .int, 2) := dk_get daX16_init_c4 172 (r := (2060, .newarray .int, 2)) rfl
theorem dX16_init_2062 : decode cX16_init 2062 = .ok (.putfield 61, 3) := dk_get daX16_init_c4 173 (r := (2062, .putfield 61, 3)) rfl
theorem dX16_init_2065 : decode cX16_init 2065 = .ok (.aload_n 0, 1) := dk_get daX16_init_c4 174 (r := (2065, .aload_n 0, 1)) rfl
theorem dX16_init_2066 : decode cX16_init 2066 = .ok (.iconst 5, 1) := dk_get daX16_init_c4 175 (r := (2066, .iconst 5, 1)) rfl
theorem dX16_init_2067 : decode cX16_init 2067 = .ok (.newarray .int, 2) := dk_get daX16_init_c4 176 (r := (2067, .newarray .int, 2)) rfl
theorem dX16_init_2069 : decode cX16_init 2069 = .ok (.putfield 64, 3) := dk_get daX16_init_c4 177 (r := (2069, .putfield 64, 3)) rfl
theorem dX16_init_2072 : decode cX16_init 2072 = .ok (.aload_n 0, 1) := dk_get daX16_init_c4 178 (r := (2072, .aload_n 0, 1)) rfl
theorem dX16_init_2073 : decode cX16_init 2073 = .ok (.bipush 32, 2) := dk_get daX16_init_c4 179 (r := (2073, .bipush 32, 2)) rfl
theorem dX16_init_2075 : decode cX16_init 2075 = .ok (.newarray .byte, 2) := dk_get daX16_init_c4 180 (r := (2075, .newarray .byte, 2)) rfl
theorem dX16_init_2077 : decode cX16_init 2077 = .ok (.putfield 80, 3) := dk_get daX16_init_c4 181 (r := (2077, .putfield 80, 3)) rfl
theorem dX16_init_2080 : decode cX16_init 2080 = .ok (.aload_n 0, 1) := dk_get daX16_init_c4 182 (r := (2080, .aload_n 0, 1)) rfl
theorem dX16_init_2081 : decode cX16_init 2081 = .ok (.bipush 8, 2) := dk_get daX16_init_c4 183 (r := (2081, .bipush 8, 2)) rfl
theorem dX16_init_2083 : decode cX16_init 2083 = .ok (.newarray .int, 2) := dk_get daX16_init_c4 184 (r := (2083, .newarray .int, 2)) rfl
theorem dX16_init_2085 : decode cX16_init 2085 = .ok (.putfield 176, 3) := dk_get daX16_init_c4 185 (r := (2085, .putfield 176, 3)) rfl
theorem dX16_init_2088 : decode cX16_init 2088 = .ok (.aload_n 0, 1) := dk_get daX16_init_c4 186 (r := (2088, .aload_n 0, 1)) rfl
theorem dX16_init_2089 : decode cX16_init 2089 = .ok (.new 91, 3) := dk_get daX16_init_c4 187 (r := (2089, .new 91, 3)) rfl
theorem dX16_init_2092 : decode cX16_init 2092 = .ok (.dup, 1) := dk_get daX16_init_c4 188 (r := (2092, .dup, 1)) rfl
theorem dX16_init_2093 : decode cX16_init 2093 = .ok (.invokespecial 784, 3) := dk_get daX16_init_c4 189 (r := (2093, .invokespecial 784, 3)) rfl
theorem dX16_init_2096 : decode cX16_init 2096 = .ok (.putfield 225, 3) := dk_get daX16_init_c4 190 (r := (2096, .putfield 225, 3)) rfl
theorem dX16_init_2099 : decode cX16_init 2099 = .ok (.aload_n 0, 1) := dk_get daX16_init_c4 191 (r := (2099, .aload_n 0, 1)) rfl
theorem dX16_init_2100 : decode cX16_init 2100 = .ok (.new 91, 3) := dk_get daX16_init_c4 192 (r := (2100, .new 91, 3)) rfl
theorem dX16_init_2103 : decode cX16_init 2103 = .ok (.dup, 1) := dk_get daX16_init_c4 193 (r := (2103, .dup, 1)) rfl
theorem dX16_init_2104 : decode cX16_init 2104 = .ok (.invokespecial 784, 3) := dk_get daX16_init_c4 194 (r := (2104, .invokespecial 784, 3)) rfl
theorem dX16_init_2107 : decode cX16_init 2107 = .ok (.putfield 169, 3) := dk_get daX16_init_c4 195 (r := (2107, .putfield 169, 3)) rfl
theorem dX16_init_2110 : decode cX16_init 2110 = .ok (.aload_n 0, 1) := dk_get daX16_init_c4 196 (r := (2110, .aload_n 0, 1)) rfl
theorem dX16_init_2111 : decode cX16_init 2111 = .ok (.new 91, 3) := dk_get daX16_init_c4 197 (r := (2111, .new 91, 3)) rfl
theorem dX16_init_2114 : decode cX16_init 2114 = .ok (.dup, 1) := dk_get daX16_init_c4 198 (r := (2114, .dup, 1)) rfl
theorem dX16_init_2115 : decode cX16_init 2115 = .ok (.invokespecial 784, 3) := dk_get daX16_init_c4 199 (r := (2115, .invokespecial 784, 3)) rfl
theorem dX16_init_2118 : decode cX16_init 2118 = .ok (.putfield 228, 3) := dk_get daX16_init_c4 200 (r := (2118, .putfield 228, 3)) rfl
theorem dX16_init_2121 : decode cX16_init 2121 = .ok (.aload_n 0, 1) := dk_get daX16_init_c4 201 (r := (2121, .aload_n 0, 1)) rfl
theorem dX16_init_2122 : decode cX16_init 2122 = .ok (.new 91, 3) := dk_get daX16_init_c4 202 (r := (2122, .new 91, 3)) rfl
theorem dX16_init_2125 : decode cX16_init 2125 = .ok (.dup, 1) := dk_get daX16_init_c4 203 (r := (2125, .dup, 1)) rfl
theorem dX16_init_2126 : decode cX16_init 2126 = .ok (.invokespecial 784, 3) := dk_get daX16_init_c4 204 (r := (2126, .invokespecial 784, 3)) rfl
theorem dX16_init_2129 : decode cX16_init 2129 = .ok (.putfield 234, 3) := dk_get daX16_init_c4 205 (r := (2129, .putfield 234, 3)) rfl
theorem dX16_init_2132 : decode cX16_init 2132 = .ok (.aload_n 0, 1) := dk_get daX16_init_c4 206 (r := (2132, .aload_n 0, 1)) rfl
theorem dX16_init_2133 : decode cX16_init 2133 = .ok (.bipush 8, 2) := dk_get daX16_init_c4 207 (r := (2133, .bipush 8, 2)) rfl
theorem dX16_init_2135 : decode cX16_init 2135 = .ok (.newarray .int, 2) := dk_get daX16_init_c4 208 (r := (2135, .newarray .int, 2)) rfl
theorem dX16_init_2137 : decode cX16_init 2137 = .ok (.putfield 108, 3) := dk_get daX16_init_c4 209 (r := (2137, .putfield 108, 3)) rfl
theorem dX16_init_2140 : decode cX16_init 2140 = .ok (.aload_n 0, 1) := dk_get daX16_init_c4 210 (r := (2140, .aload_n 0, 1)) rfl
theorem dX16_init_2141 : decode cX16_init 2141 = .ok (.bipush 8, 2) := dk_get daX16_init_c4 211 (r := (2141, .bipush 8, 2)) rfl
theorem dX16_init_2143 : decode cX16_init 2143 = .ok (.newarray .int, 2) := dk_get daX16_init_c4 212 (r := (2143, .newarray .int, 2)) rfl
theorem dX16_init_2145 : decode cX16_init 2145 = .ok (.putfield 118, 3) := dk_get daX16_init_c4 213 (r := (2145, .putfield 118, 3)) rfl
theorem dX16_init_2148 : decode cX16_init 2148 = .ok (.aload_n 0, 1) := dk_get daX16_init_c4 214 (r := (2148, .aload_n 0, 1)) rfl
theorem dX16_init_2149 : decode cX16_init 2149 = .ok (.bipush 8, 2) := dk_get daX16_init_c4 215 (r := (2149, .bipush 8, 2)) rfl
theorem dX16_init_2151 : decode cX16_init 2151 = .ok (.newarray .int, 2) := dk_get daX16_init_c4 216 (r := (2151, .newarray .int, 2)) rfl
theorem dX16_init_2153 : decode cX16_init 2153 = .ok (.putfield 124, 3) := dk_get daX16_init_c4 217 (r := (2153, .putfield 124, 3)) rfl
theorem dX16_init_2156 : decode cX16_init 2156 = .ok (.aload_n 0, 1) := dk_get daX16_init_c4 218 (r := (2156, .aload_n 0, 1)) rfl
theorem dX16_init_2157 : decode cX16_init 2157 = .ok (.bipush 8, 2) := dk_get daX16_init_c4 219 (r := (2157, .bipush 8, 2)) rfl
theorem dX16_init_2159 : decode cX16_init 2159 = .ok (.newarray .int, 2) := dk_get daX16_init_c4 220 (r := (2159, .newarray .int, 2)) rfl
theorem dX16_init_2161 : decode cX16_init 2161 = .ok (.putfield 127, 3) := dk_get daX16_init_c4 221 (r := (2161, .putfield 127, 3)) rfl
theorem dX16_init_2164 : decode cX16_init 2164 = .ok (.aload_n 0, 1) := dk_get daX16_init_c4 222 (r := (2164, .aload_n 0, 1)) rfl
theorem dX16_init_2165 : decode cX16_init 2165 = .ok (.bipush 8, 2) := dk_get daX16_init_c4 223 (r := (2165, .bipush 8, 2)) rfl
theorem dX16_init_2167 : decode cX16_init 2167 = .ok (.newarray .int, 2) := dk_get daX16_init_c4 224 (r := (2167, .newarray .int, 2)) rfl
theorem dX16_init_2169 : decode cX16_init 2169 = .ok (.putfield 130, 3) := dk_get daX16_init_c4 225 (r := (2169, .putfield 130, 3)) rfl
theorem dX16_init_2172 : decode cX16_init 2172 = .ok (.aload_n 0, 1) := dk_get daX16_init_c4 226 (r := (2172, .aload_n 0, 1)) rfl
theorem dX16_init_2173 : decode cX16_init 2173 = .ok (.bipush 8, 2) := dk_get daX16_init_c4 227 (r := (2173, .bipush 8, 2)) rfl
theorem dX16_init_2175 : decode cX16_init 2175 = .ok (.newarray .int, 2) := dk_get daX16_init_c4 228 (r := (2175, .newarray .int, 2)) rfl
theorem dX16_init_2177 : decode cX16_init 2177 = .ok (.putfield 785, 3) := dk_get daX16_init_c4 229 (r := (2177, .putfield 785, 3)) rfl
theorem dX16_init_2180 : decode cX16_init 2180 = .ok (.aload_n 0, 1) := dk_get daX16_init_c4 230 (r := (2180, .aload_n 0, 1)) rfl
theorem dX16_init_2181 : decode cX16_init 2181 = .ok (.bipush 8, 2) := dk_get daX16_init_c4 231 (r := (2181, .bipush 8, 2)) rfl
theorem dX16_init_2183 : decode cX16_init 2183 = .ok (.newarray .int, 2) := dk_get daX16_init_c4 232 (r := (2183, .newarray .int, 2)) rfl
theorem dX16_init_2185 : decode cX16_init 2185 = .ok (.putfield 155, 3) := dk_get daX16_init_c4 233 (r := (2185, .putfield 155, 3)) rfl
theorem dX16_init_2188 : decode cX16_init 2188 = .ok (.aload_n 0, 1) := dk_get daX16_init_c4 234 (r := (2188, .aload_n 0, 1)) rfl
theorem dX16_init_2189 : decode cX16_init 2189 = .ok (.bipush 8, 2) := dk_get daX16_init_c4 235 (r := (2189, .bipush 8, 2)) rfl
theorem dX16_init_2191 : decode cX16_init 2191 = .ok (.newarray .int, 2) := dk_get daX16_init_c4 236 (r := (2191, .newarray .int, 2)) rfl
theorem dX16_init_2193 : decode cX16_init 2193 = .ok (.putfield 185, 3) := dk_get daX16_init_c4 237 (r := (2193, .putfield 185, 3)) rfl
theorem dX16_init_2196 : decode cX16_init 2196 = .ok (.aload_n 0, 1) := dk_get daX16_init_c4 238 (r := (2196, .aload_n 0, 1)) rfl
theorem dX16_init_2197 : decode cX16_init 2197 = .ok (.bipush 8, 2) := dk_get daX16_init_c4 239 (r := (2197, .bipush 8, 2)) rfl
theorem dX16_init_2199 : decode cX16_init 2199 = .ok (.newarray .int, 2) := dk_get daX16_init_c4 240 (r := (2199, .newarray .int, 2)) rfl
theorem dX16_init_2201 : decode cX16_init 2201 = .ok (.putfield 203, 3) := dk_get daX16_init_c4 241 (r := (2201, .putfield 203, 3)) rfl
theorem dX16_init_2204 : decode cX16_init 2204 = .ok (.aload_n 0, 1) := dk_get daX16_init_c4 242 (r := (2204, .aload_n 0, 1)) rfl
theorem dX16_init_2205 : decode cX16_init 2205 = .ok (.bipush 8, 2) := dk_get daX16_init_c4 243 (r := (2205, .bipush 8, 2)) rfl
theorem dX16_init_2207 : decode cX16_init 2207 = .ok (.newarray .int, 2) := dk_get daX16_init_c4 244 (r := (2207, .newarray .int, 2)) rfl
theorem dX16_init_2209 : decode cX16_init 2209 = .ok (.putfield 210, 3) := dk_get daX16_init_c4 245 (r := (2209, .putfield 210, 3)) rfl
theorem dX16_init_2212 : decode cX16_init 2212 = .ok (.aload_n 0, 1) := dk_get daX16_init_c4 246 (r := (2212, .aload_n 0, 1)) rfl
theorem dX16_init_2213 : decode cX16_init 2213 = .ok (.bipush 8, 2) := dk_get daX16_init_c4 247 (r := (2213, .bipush 8, 2)) rfl
theorem dX16_init_2215 : decode cX16_init 2215 = .ok (.newarray .int, 2) := dk_get daX16_init_c4 248 (r := (2215, .newarray .int, 2)) rfl
theorem dX16_init_2217 : decode cX16_init 2217 = .ok (.putfield 216, 3) := dk_get daX16_init_c4 249 (r := (2217, .putfield 216, 3)) rfl
theorem dX16_init_2220 : decode cX16_init 2220 = .ok (.aload_n 0, 1) := dk_get daX16_init_c4 250 (r := (2220, .aload_n 0, 1)) rfl
theorem dX16_init_2221 : decode cX16_init 2221 = .ok (.bipush 8, 2) := dk_get daX16_init_c4 251 (r := (2221, .bipush 8, 2)) rfl
theorem dX16_init_2223 : decode cX16_init 2223 = .ok (.newarray .int, 2) := dk_get daX16_init_c4 252 (r := (2223, .newarray .int, 2)) rfl
theorem dX16_init_2225 : decode cX16_init 2225 = .ok (.putfield 219, 3) := dk_get daX16_init_c4 253 (r := (2225, .putfield 219, 3)) rfl
theorem dX16_init_2228 : decode cX16_init 2228 = .ok (.aload_n 0, 1) := dk_get daX16_init_c4 254 (r := (2228, .aload_n 0, 1)) rfl
theorem dX16_init_2229 : decode cX16_init 2229 = .ok (.bipush 8, 2) := dk_get daX16_init_c4 255 (r := (2229, .bipush 8, 2)) rfl
theorem dX16_init_2231 : decode cX16_init 2231 = .ok (.newarray .int, 2) := dk_get daX16_init_c4 256 (r := (2231, .newarray .int, 2)) rfl
theorem dX16_init_2233 : decode cX16_init 2233 = .ok (.putfield 222, 3) := dk_get daX16_init_c4 257 (r := (2233, .putfield 222, 3)) rfl
theorem dX16_init_2236 : decode cX16_init 2236 = .ok (.aload_n 0, 1) := dk_get daX16_init_c4 258 (r := (2236, .aload_n 0, 1)) rfl
theorem dX16_init_2237 : decode cX16_init 2237 = .ok (.bipush 32, 2) := dk_get daX16_init_c4 259 (r := (2237, .bipush 32, 2)) rfl
theorem dX16_init_2239 : decode cX16_init 2239 = .ok (.newarray .byte, 2) := dk_get daX16_init_c4 260 (r := (2239, .newarray .byte, 2)) rfl
theorem dX16_init_2241 : decode cX16_init 2241 = .ok (.putfield 213, 3) := dk_get daX16_init_c4 261 (r := (2241, .putfield 213, 3)) rfl
theorem dX16_init_2244 : decode cX16_init 2244 = .ok (.aload_n 0, 1) := dk_get daX16_init_c4 262 (r := (2244, .aload_n 0, 1)) rfl
theorem dX16_init_2245 : decode cX16_init 2245 = .ok (.bipush 8, 2) := dk_get daX16_init_c4 263 (r := (2245, .bipush 8, 2)) rfl
theorem dX16_init_2247 : decode cX16_init 2247 = .ok (.newarray .int, 2) := dk_get daX16_init_c4 264 (r := (2247, .newarray .int, 2)) rfl
theorem dX16_init_2249 : decode cX16_init 2249 = .ok (.putfield 387, 3) := dk_get daX16_init_c4 265 (r := (2249, .putfield 387, 3)) rfl
theorem dX16_init_2252 : decode cX16_init 2252 = .ok (.aload_n 0, 1) := dk_get daX16_init_c4 266 (r := (2252, .aload_n 0, 1)) rfl
theorem dX16_init_2253 : decode cX16_init 2253 = .ok (.bipush 8, 2) := dk_get daX16_init_c4 267 (r := (2253, .bipush 8, 2)) rfl
theorem dX16_init_2255 : decode cX16_init 2255 = .ok (.newarray .int, 2) := dk_get daX16_init_c4 268 (r := (2255, .newarray .int, 2)) rfl
theorem dX16_init_2257 : decode cX16_init 2257 = .ok (.putfield 342, 3) := dk_get daX16_init_c4 269 (r := (2257, .putfield 342, 3)) rfl
theorem dX16_init_2260 : decode cX16_init 2260 = .ok (.aload_n 0, 1) := dk_get daX16_init_c4 270 (r := (2260, .aload_n 0, 1)) rfl
theorem dX16_init_2261 : decode cX16_init 2261 = .ok (.bipush 8, 2) := dk_get daX16_init_c4 271 (r := (2261, .bipush 8, 2)) rfl
theorem dX16_init_2263 : decode cX16_init 2263 = .ok (.newarray .int, 2) := dk_get daX16_init_c4 272 (r := (2263, .newarray .int, 2)) rfl
theorem dX16_init_2265 : decode cX16_init 2265 = .ok (.putfield 338, 3) := dk_get daX16_init_c4 273 (r := (2265, .putfield 338, 3)) rfl
theorem dX16_init_2268 : decode cX16_init 2268 = .ok (.aload_n 0, 1) := dk_get daX16_init_c4 274 (r := (2268, .aload_n 0, 1)) rfl
theorem dX16_init_2269 : decode cX16_init 2269 = .ok (.bipush 8, 2) := dk_get daX16_init_c4 275 (r := (2269, .bipush 8, 2)) rfl
theorem dX16_init_2271 : decode cX16_init 2271 = .ok (.newarray .int, 2) := dk_get daX16_init_c4 276 (r := (2271, .newarray .int, 2)) rfl
theorem dX16_init_2273 : decode cX16_init 2273 = .ok (.putfield 339, 3) := dk_get daX16_init_c4 277 (r := (2273, .putfield 339, 3)) rfl
theorem dX16_init_2276 : decode cX16_init 2276 = .ok (.aload_n 0, 1) := dk_get daX16_init_c4 278 (r := (2276, .aload_n 0, 1)) rfl
theorem dX16_init_2277 : decode cX16_init 2277 = .ok (.bipush 61, 2) := dk_get daX16_init_c4 279 (r := (2277, .bipush 61, 2)) rfl
theorem dX16_init_2279 : decode cX16_init 2279 = .ok (.anewarray 352, 3) := dk_get daX16_init_c4 280 (r := (2279, .anewarray 352, 3)) rfl
theorem dX16_init_2282 : decode cX16_init 2282 = .ok (.putfield 347, 3) := dk_get daX16_init_c4 281 (r := (2282, .putfield 347, 3)) rfl
theorem dX16_init_2285 : decode cX16_init 2285 = .ok (.aload_n 0, 1) := dk_get daX16_init_c4 282 (r := (2285, .aload_n 0, 1)) rfl
theorem dX16_init_2286 : decode cX16_init 2286 = .ok (.sipush 512, 3) := dk_get daX16_init_c4 283 (r := (2286, .sipush 512, 3)) rfl
theorem dX16_init_2289 : decode cX16_init 2289 = .ok (.newarray .int, 2) := dk_get daX16_init_c4 284 (r := (2289, .newarray .int, 2)) rfl
theorem dX16_init_2291 : decode cX16_init 2291 = .ok (.putfield 500, 3) := dk_get daX16_init_c4 285 (r := (2291, .putfield 500, 3)) rfl
theorem dX16_init_2294 : decode cX16_init 2294 = .ok (.aload_n 0, 1) := dk_get daX16_init_c4 286 (r := (2294, .aload_n 0, 1)) rfl
theorem dX16_init_2295 : decode cX16_init 2295 = .ok (.sipush 2300, 3) := dk_get daX16_init_c4 287 (r := (2295, .sipush 2300, 3)) rfl
theorem dX16_init_2298 : decode cX16_init 2298 = .ok (.newarray .int, 2) := dk_get daX16_init_c4 288 (r := (2298, .newarray .int, 2)) rfl
theorem dX16_init_2300 : decode cX16_init 2300 = .ok (.putfield 461, 3) := dk_get daX16_init_c4 289 (r := (2300, .putfield 461, 3)) rfl
theorem dX16_init_2303 : decode cX16_init 2303 = .ok (.aload_n 0, 1) := dk_get daX16_init_c4 290 (r := (2303, .aload_n 0, 1)) rfl
theorem dX16_init_2304 : decode cX16_init 2304 = .ok (.bipush 11, 2) := dk_get daX16_init_c4 291 (r := (2304, .bipush 11, 2)) rfl
theorem dX16_init_2306 : decode cX16_init 2306 = .ok (.newarray .long, 2) := dk_get daX16_init_c4 292 (r := (2306, .newarray .long, 2)) rfl
theorem dX16_init_2308 : decode cX16_init 2308 = .ok (.putfield 361, 3) := dk_get daX16_init_c4 293 (r := (2308, .putfield 361, 3)) rfl
theorem dX16_init_2311 : decode cX16_init 2311 = .ok (.aload_n 0, 1) := dk_get daX16_init_c4 294 (r := (2311, .aload_n 0, 1)) rfl
theorem dX16_init_2312 : decode cX16_init 2312 = .ok (.bipush 10, 2) := dk_get daX16_init_c4 295 (r := (2312, .bipush 10, 2)) rfl
theorem dX16_init_2314 : decode cX16_init 2314 = .ok (.newarray .int, 2) := dk_get daX16_init_c4 296 (r := (2314, .newarray .int, 2)) rfl
theorem dX16_init_2316 : decode cX16_init 2316 = .ok (.putfield 382, 3) := dk_get daX16_init_c4 297 (r := (2316, .putfield 382, 3)) rfl
theorem dX16_init_2319 : decode cX16_init 2319 = .ok (.aload_n 0, 1) := dk_get daX16_init_c4 298 (r := (2319, .aload_n 0, 1)) rfl
theorem dX16_init_2320 : decode cX16_init 2320 = .ok (.new 276, 3) := dk_get daX16_init_c4 299 (r := (2320, .new 276, 3)) rfl
def drX16_init_c5 : List (Nat × Instr × Nat) := [(2323, .dup, 1), (2324, .invokespecial 788, 3), (2327, .putfield 789, 3), (2330, .aload_n 0, 1), (2331, .bipush 32, 2), (2333, .newarray .byte, 2), (2335, .putfield 792, 3), (2338, .aload_n 0, 1), (2339, .sipush 416, 3), (2342, .newarray .byte, 2), (2344, .putfield 397, 3), (2347, .aload_n 0, 1), (2348, .bipush 64, 2), (2350, .newarray .byte, 2), (2352, .putfield 400, 3), (2355, .aload_n 0, 1), (2356, .bipush 32, 2), (2358, .newarray .byte, 2), (2360, .putfield 394, 3), (2363, .aload_n 0, 1), (2364, .bipush 8, 2), (2366, .newarray .int, 2), (2368, .putfield 514, 3), (2371, .aload_n 0, 1), (2372, .bipush 8, 2), (2374, .newarray .int, 2), (2376, .putfield 795, 3), (2379, .aload_n 0, 1), (2380, .bipush 61, 2), (2382, .newarray .int, 2), (2384, .putfield 487, 3), (2387, .aload_n 0, 1), (2388, .sipush 1002, 3), (2391, .anewarray 798, 3), (2394, .putfield 527, 3), (2397, .aload_n 0, 1), (2398, .sipush 1002, 3), (2401, .newarray .int, 2), (2403, .putfield 535, 3), (2406, .aload_n 0, 1), (2407, .sipush 1002, 3), (2410, .anewarray 798, 3), (2413, .putfield 606, 3), (2416, .aload_n 0, 1), (2417, .sipush 1002, 3), (2420, .newarray .int, 2), (2422, .putfield 609, 3), (2425, .aload_n 0, 1), (2426, .sipush 1002, 3), (2429, .anewarray 798, 3), (2432, .putfield 714, 3), (2435, .aload_n 0, 1), (2436, .sipush 1002, 3), (2439, .newarray .int, 2), (2441, .putfield 717, 3), (2444, .aload_n 0, 1), (2445, .bipush 9, 2), (2447, .newarray .byte, 2), (2449, .putfield 542, 3), (2452, .aload_n 0, 1), (2453, .sipush 1601, 3), (2456, .newarray .boolean, 2), (2458, .putfield 570, 3), (2461, .aload_n 0, 1), (2462, .bipush 21, 2), (2464, .newarray .int, 2), (2466, .dup, 1), (2467, .iconst 0, 1), (2468, .iconst 1, 1), (2469, .iastore, 1), (2470, .dup, 1), (2471, .iconst 1, 1), (2472, .iconst 0, 1), (2473, .iastore, 1), (2474, .dup, 1), (2475, .iconst 2, 1), (2476, .iconst 1, 1), (2477, .iastore, 1), (2478, .dup, 1), (2479, .iconst 3, 1), (2480, .iconst 0, 1), (2481, .iastore, 1), (2482, .dup, 1), (2483, .iconst 4, 1), (2484, .iconst 2, 1), (2485, .iastore, 1), (2486, .dup, 1), (2487, .iconst 5, 1), (2488, .iconst 2, 1), (2489, .iastore, 1), (2490, .dup, 1), (2491, .bipush 6, 2), (2493, .iconst 3, 1), (2494, .iastore, 1), (2495, .dup, 1), (2496, .bipush 7, 2), (2498, .iconst 4, 1), (2499, .iastore, 1), (2500, .dup, 1), (2501, .bipush 8, 2), (2503, .bipush 6, 2), (2505, .iastore, 1), (2506, .dup, 1), (2507, .bipush 9, 2), (2509, .iconst 4, 1), (2510, .iastore, 1), (2511, .dup, 1), (2512, .bipush 10, 2), (2514, .iconst 1, 1), (2515, .iastore, 1), (2516, .dup, 1), (2517, .bipush 11, 2), (2519, .iconst 0, 1), (2520, .iastore, 1), (2521, .dup, 1), (2522, .bipush 12, 2), (2524, .iconst 1, 1), (2525, .iastore, 1), (2526, .dup, 1), (2527, .bipush 13, 2), (2529, .iconst 1, 1), (2530, .iastore, 1), (2531, .dup, 1), (2532, .bipush 14, 2), (2534, .iconst 2, 1), (2535, .iastore, 1), (2536, .dup, 1), (2537, .bipush 15, 2), (2539, .iconst 2, 1), (2540, .iastore, 1), (2541, .dup, 1), (2542, .bipush 16, 2), (2544, .iconst 2, 1), (2545, .iastore, 1), (2546, .dup, 1), (2547, .bipush 17, 2), (2549, .iconst 2, 1), (2550, .iastore, 1), (2551, .dup, 1), (2552, .bipush 18, 2), (2554, .iconst 3, 1), (2555, .iastore, 1), (2556, .dup, 1), (2557, .bipush 19, 2), (2559, .iconst 2, 1), (2560, .iastore, 1), (2561, .dup, 1), (2562, .bipush 20, 2), (2564, .iconst 2, 1), (2565, .iastore, 1), (2566, .putfield 603, 3), (2569, .aload_n 0, 1), (2570, .bipush 32, 2), (2572, .newarray .byte, 2), (2574, .putfield 636, 3), (2577, .aload_n 0, 1), (2578, .sipush 1700, 3), (2581, .newarray .byte, 2), (2583, .putfield 645, 3), (2586, .aload_n 0, 1), (2587, .sipush 1700, 3), (2590, .newarray .byte, 2), (2592, .putfield 648, 3), (2595, .aload_n 0, 1), (2596, .sipush 16384, 3), (2599, .newarray .byte, 2), (2601, .putfield 650, 3), (2604, .aload_n 0, 1), (2605, .bipush 12, 2), (2607, .newarray .long, 2), (2609, .putfield 729, 3), (2612, .aload_n 0, 1), (2613, .bipush 12, 2), (2615, .newarray .long, 2), (2617, .putfield 764, 3), (2620, .aload_n 0, 1), (2621, .bipush 12, 2), (2623, .newarray .int, 2), (2625, .putfield 732, 3), (2628, .aload_n 0, 1), (2629, .bipush 12, 2), (2631, .newarray .int, 2), (2633, .putfield 752, 3), (2636, .aload_n 0, 1), (2637, .sipush 2592, 3), (2640, .newarray .byte, 2), (2642, .putfield 738, 3), (2645, .aload_n 0, 1), (2646, .bipush 72, 2), (2648, .newarray .long, 2), (2650, .putfield 749, 3), (2653, .aload_n 0, 1), (2654, .bipush 72, 2), (2656, .sipush 600, 3), (2659, .multianewarray 799 2, 4), (2663, .putfield 746, 3), (2666, .aload_n 0, 1), (2667, .bipush 72, 2), (2669, .newarray .int, 2), (2671, .putfield 743, 3), (2674, .aload_n 0, 1), (2675, .bipush 72, 2), (2677, .newarray .long, 2), (2679, .putfield 755, 3), (2682, .aload_n 0, 1), (2683, .bipush 72, 2), (2685, .sipush 600, 3), (2688, .multianewarray 799 2, 4), (2692, .putfield 761, 3), (2695, .aload_n 0, 1), (2696, .bipush 72, 2), (2698, .newarray .int, 2), (2700, .putfield 758, 3), (2703, .aload_n 0, 1), (2704, .ldc_w 800, 3), (2707, .newarray .byte, 2), (2709, .putfield 720, 3), (2712, .aload_n 0, 1), (2713, .sipush 384, 3), (2716, .newarray .byte, 2), (2718, .putfield 770, 3), (2721, .aload_n 0, 1), (2722, .sipush 1600, 3), (2725, .newarray .byte, 2), (2727, .putfield 801, 3), (2730, .aload_n 0, 1), (2731, .bipush 8, 2), (2733, .newarray .int, 2), (2735, .putfield 804, 3), (2738, .aload_n 0, 1), (2739, .bipush 65, 2), (2741, .newarray .byte, 2), (2743, .putfield 807, 3), (2746, .aload_n 0, 1), (2747, .new 276, 3), (2750, .dup, 1), (2751, .invokespecial 788, 3), (2754, .putfield 810, 3), (2757, .aload_n 0, 1), (2758, .bipush 80, 2), (2760, .newarray .byte, 2), (2762, .putfield 813, 3), (2765, .aload_n 0, 1), (2766, .bipush 32, 2), (2768, .newarray .byte, 2), (2770, .putfield 816, 3), (2773, .aload_n 0, 1), (2774, .bipush 64, 2), (2776, .newarray .byte, 2), (2778, .putfield 819, 3), (2781, .bipush 8, 2), (2783, .newarray .int, 2), (2785, .dup, 1), (2786, .iconst 0, 1), (2787, .sipush (-977), 3), (2790, .iastore, 1), (2791, .dup, 1), (2792, .iconst 1, 1), (2793, .bipush (-2), 2), (2795, .iastore, 1), (2796, .dup, 1), (2797, .iconst 2, 1), (2798, .iconst (-1), 1), (2799, .iastore, 1), (2800, .dup, 1), (2801, .iconst 3, 1), (2802, .iconst (-1), 1), (2803, .iastore, 1), (2804, .dup, 1), (2805, .iconst 4, 1), (2806, .iconst (-1), 1), (2807, .iastore, 1), (2808, .dup, 1), (2809, .iconst 5, 1), (2810, .iconst (-1), 1), (2811, .iastore, 1), (2812, .dup, 1), (2813, .bipush 6, 2), (2815, .iconst (-1), 1), (2816, .iastore, 1), (2817, .dup, 1), (2818, .bipush 7, 2), (2820, .iconst (-1), 1), (2821, .iastore, 1), (2822, .astore_n 1, 1), (2823, .bipush 8, 2), (2825, .newarray .int, 2), (2827, .dup, 1), (2828, .iconst 0, 1), (2829, .ldc_w 822, 3), (2832, .iastore, 1), (2833, .dup, 1), (2834, .iconst 1, 1), (2835, .ldc_w 823, 3), (2838, .iastore, 1), (2839, .dup, 1), (2840, .iconst 2, 1), (2841, .ldc_w 824, 3), (2844, .iastore, 1), (2845, .dup, 1)]
set_option maxRecDepth 100000 in
theorem daX16_init_c5 : dk_all cX16_init drX16_init_c5 = true := by decide +kernel
theorem dX16_init_2323 : decode cX16_init 2323 = .ok (.dup, 1) := dk_get daX16_init_c5 0 (r := (2323, .dup, 1)) rfl
theorem dX16_init_2324 : decode cX16_init 2324 = .ok (.invokespecial 788, 3) := dk_get daX16_init_c5 1 (r := (2324, .invokespecial 788, 3)) rfl
theorem dX16_init_2327 : decode cX16_init 2327 = .ok (.putfield 789, 3) := dk_get daX16_init_c5 2 (r := (2327, .putfield 789, 3)) rfl
theorem dX16_init_2330 : decode cX16_init 2330 = .ok (.aload_n 0, 1) := dk_get daX16_init_c5 3 (r := (2330, .aload_n 0, 1)) rfl
theorem dX16_init_2331 : decode cX16_init 2331 = .ok (.bipush 32, 2) := dk_get daX16_init_c5 4 (r := (2331, .bipush 32, 2)) rfl
theorem dX16_init_2333 : decode cX16_init 2333 = .ok (.newarray .byte, 2) := dk_get daX16_init_c5 5 (r := (2333, .newarray .byte, 2)) rfl
theorem dX16_init_2335 : decode cX16_init 2335 = .ok (.putfield 792, 3) := dk_get daX16_init_c5 6 (r := (2335, .putfield 792, 3)) rfl
theorem dX16_init_2338 : decode cX16_init 2338 = .ok (.aload_n 0, 1) := dk_get daX16_init_c5 7 (r := (2338, .aload_n 0, 1)) rfl
theorem dX16_init_2339 : decode cX16_init 2339 = .ok (.sipush 416, 3) := dk_get daX16_init_c5 8 (r := (2339, .sipush 416, 3)) rfl
theorem dX16_init_2342 : decode cX16_init 2342 = .ok (.newarray .byte, 2) := dk_get daX16_init_c5 9 (r := (2342, .newarray .byte, 2)) rfl
theorem dX16_init_2344 : decode cX16_init 2344 = .ok (.putfield 397, 3) := dk_get daX16_init_c5 10 (r := (2344, .putfield 397, 3)) rfl
theorem dX16_init_2347 : decode cX16_init 2347 = .ok (.aload_n 0, 1) := dk_get daX16_init_c5 11 (r := (2347, .aload_n 0, 1)) rfl
theorem dX16_init_2348 : decode cX16_init 2348 = .ok (.bipush 64, 2) := dk_get daX16_init_c5 12 (r := (2348, .bipush 64, 2)) rfl
theorem dX16_init_2350 : decode cX16_init 2350 = .ok (.newarray .byte, 2) := dk_get daX16_init_c5 13 (r := (2350, .newarray .byte, 2)) rfl
theorem dX16_init_2352 : decode cX16_init 2352 = .ok (.putfield 400, 3) := dk_get daX16_init_c5 14 (r := (2352, .putfield 400, 3)) rfl
theorem dX16_init_2355 : decode cX16_init 2355 = .ok (.aload_n 0, 1) := dk_get daX16_init_c5 15 (r := (2355, .aload_n 0, 1)) rfl
theorem dX16_init_2356 : decode cX16_init 2356 = .ok (.bipush 32, 2) := dk_get daX16_init_c5 16 (r := (2356, .bipush 32, 2)) rfl
theorem dX16_init_2358 : decode cX16_init 2358 = .ok (.newarray .byte, 2) := dk_get daX16_init_c5 17 (r := (2358, .newarray .byte, 2)) rfl
theorem dX16_init_2360 : decode cX16_init 2360 = .ok (.putfield 394, 3) := dk_get daX16_init_c5 18 (r := (2360, .putfield 394, 3)) rfl
theorem dX16_init_2363 : decode cX16_init 2363 = .ok (.aload_n 0, 1) := dk_get daX16_init_c5 19 (r := (2363, .aload_n 0, 1)) rfl
theorem dX16_init_2364 : decode cX16_init 2364 = .ok (.bipush 8, 2) := dk_get daX16_init_c5 20 (r := (2364, .bipush 8, 2)) rfl
theorem dX16_init_2366 : decode cX16_init 2366 = .ok (.newarray .int, 2) := dk_get daX16_init_c5 21 (r := (2366, .newarray .int, 2)) rfl
theorem dX16_init_2368 : decode cX16_init 2368 = .ok (.putfield 514, 3) := dk_get daX16_init_c5 22 (r := (2368, .putfield 514, 3)) rfl
theorem dX16_init_2371 : decode cX16_init 2371 = .ok (.aload_n 0, 1) := dk_get daX16_init_c5 23 (r := (2371, .aload_n 0, 1)) rfl
theorem dX16_init_2372 : decode cX16_init 2372 = .ok (.bipush 8, 2) := dk_get daX16_init_c5 24 (r := (2372, .bipush 8, 2)) rfl
theorem dX16_init_2374 : decode cX16_init 2374 = .ok (.newarray .int, 2) := dk_get daX16_init_c5 25 (r := (2374, .newarray .int, 2)) rfl
theorem dX16_init_2376 : decode cX16_init 2376 = .ok (.putfield 795, 3) := dk_get daX16_init_c5 26 (r := (2376, .putfield 795, 3)) rfl
theorem dX16_init_2379 : decode cX16_init 2379 = .ok (.aload_n 0, 1) := dk_get daX16_init_c5 27 (r := (2379, .aload_n 0, 1)) rfl
theorem dX16_init_2380 : decode cX16_init 2380 = .ok (.bipush 61, 2) := dk_get daX16_init_c5 28 (r := (2380, .bipush 61, 2)) rfl
theorem dX16_init_2382 : decode cX16_init 2382 = .ok (.newarray .int, 2) := dk_get daX16_init_c5 29 (r := (2382, .newarray .int, 2)) rfl
theorem dX16_init_2384 : decode cX16_init 2384 = .ok (.putfield 487, 3) := dk_get daX16_init_c5 30 (r := (2384, .putfield 487, 3)) rfl
theorem dX16_init_2387 : decode cX16_init 2387 = .ok (.aload_n 0, 1) := dk_get daX16_init_c5 31 (r := (2387, .aload_n 0, 1)) rfl
theorem dX16_init_2388 : decode cX16_init 2388 = .ok (.sipush 1002, 3) := dk_get daX16_init_c5 32 (r := (2388, .sipush 1002, 3)) rfl
theorem dX16_init_2391 : decode cX16_init 2391 = .ok (.anewarray 798, 3) := dk_get daX16_init_c5 33 (r := (2391, .anewarray 798, 3)) rfl
theorem dX16_init_2394 : decode cX16_init 2394 = .ok (.putfield 527, 3) := dk_get daX16_init_c5 34 (r := (2394, .putfield 527, 3)) rfl
theorem dX16_init_2397 : decode cX16_init 2397 = .ok (.aload_n 0, 1) := dk_get daX16_init_c5 35 (r := (2397, .aload_n 0, 1)) rfl
theorem dX16_init_2398 : decode cX16_init 2398 = .ok (.sipush 1002, 3) := dk_get daX16_init_c5 36 (r := (2398, .sipush 1002, 3)) rfl
theorem dX16_init_2401 : decode cX16_init 2401 = .ok (.newarray .int, 2) := dk_get daX16_init_c5 37 (r := (2401, .newarray .int, 2)) rfl
theorem dX16_init_2403 : decode cX16_init 2403 = .ok (.putfield 535, 3) := dk_get daX16_init_c5 38 (r := (2403, .putfield 535, 3)) rfl
theorem dX16_init_2406 : decode cX16_init 2406 = .ok (.aload_n 0, 1) := dk_get daX16_init_c5 39 (r := (2406, .aload_n 0, 1)) rfl
theorem dX16_init_2407 : decode cX16_init 2407 = .ok (.sipush 1002, 3) := dk_get daX16_init_c5 40 (r := (2407, .sipush 1002, 3)) rfl
theorem dX16_init_2410 : decode cX16_init 2410 = .ok (.anewarray 798, 3) := dk_get daX16_init_c5 41 (r := (2410, .anewarray 798, 3)) rfl
theorem dX16_init_2413 : decode cX16_init 2413 = .ok (.putfield 606, 3) := dk_get daX16_init_c5 42 (r := (2413, .putfield 606, 3)) rfl
theorem dX16_init_2416 : decode cX16_init 2416 = .ok (.aload_n 0, 1) := dk_get daX16_init_c5 43 (r := (2416, .aload_n 0, 1)) rfl
theorem dX16_init_2417 : decode cX16_init 2417 = .ok (.sipush 1002, 3) := dk_get daX16_init_c5 44 (r := (2417, .sipush 1002, 3)) rfl
theorem dX16_init_2420 : decode cX16_init 2420 = .ok (.newarray .int, 2) := dk_get daX16_init_c5 45 (r := (2420, .newarray .int, 2)) rfl
theorem dX16_init_2422 : decode cX16_init 2422 = .ok (.putfield 609, 3) := dk_get daX16_init_c5 46 (r := (2422, .putfield 609, 3)) rfl
theorem dX16_init_2425 : decode cX16_init 2425 = .ok (.aload_n 0, 1) := dk_get daX16_init_c5 47 (r := (2425, .aload_n 0, 1)) rfl
theorem dX16_init_2426 : decode cX16_init 2426 = .ok (.sipush 1002, 3) := dk_get daX16_init_c5 48 (r := (2426, .sipush 1002, 3)) rfl
theorem dX16_init_2429 : decode cX16_init 2429 = .ok (.anewarray 798, 3) := dk_get daX16_init_c5 49 (r := (2429, .anewarray 798, 3)) rfl
theorem dX16_init_2432 : decode cX16_init 2432 = .ok (.putfield 714, 3) := dk_get daX16_init_c5 50 (r := (2432, .putfield 714, 3)) rfl
theorem dX16_init_2435 : decode cX16_init 2435 = .ok (.aload_n 0, 1) := dk_get daX16_init_c5 51 (r := (2435, .aload_n 0, 1)) rfl
theorem dX16_init_2436 : decode cX16_init 2436 = .ok (.sipush 1002, 3) := dk_get daX16_init_c5 52 (r := (2436, .sipush 1002, 3)) rfl
theorem dX16_init_2439 : decode cX16_init 2439 = .ok (.newarray .int, 2) := dk_get daX16_init_c5 53 (r := (2439, .newarray .int, 2)) rfl
theorem dX16_init_2441 : decode cX16_init 2441 = .ok (.putfield 717, 3) := dk_get daX16_init_c5 54 (r := (2441, .putfield 717, 3)) rfl
theorem dX16_init_2444 : decode cX16_init 2444 = .ok (.aload_n 0, 1) := dk_get daX16_init_c5 55 (r := (2444, .aload_n 0, 1)) rfl
theorem dX16_init_2445 : decode cX16_init 2445 = .ok (.bipush 9, 2) := dk_get daX16_init_c5 56 (r := (2445, .bipush 9, 2)) rfl
theorem dX16_init_2447 : decode cX16_init 2447 = .ok (.newarray .byte, 2) := dk_get daX16_init_c5 57 (r := (2447, .newarray .byte, 2)) rfl
theorem dX16_init_2449 : decode cX16_init 2449 = .ok (.putfield 542, 3) := dk_get daX16_init_c5 58 (r := (2449, .putfield 542, 3)) rfl
theorem dX16_init_2452 : decode cX16_init 2452 = .ok (.aload_n 0, 1) := dk_get daX16_init_c5 59 (r := (2452, .aload_n 0, 1)) rfl
theorem dX16_init_2453 : decode cX16_init 2453 = .ok (.sipush 1601, 3) := dk_get daX16_init_c5 60 (r := (2453, .sipush 1601, 3)) rfl
theorem dX16_init_2456 : decode cX16_init 2456 = .ok (.newarray .boolean, 2) := dk_get daX16_init_c5 61 (r := (2456, .newarray .boolean, 2)) rfl
theorem dX16_init_2458 : decode cX16_init 2458 = .ok (.putfield 570, 3) := dk_get daX16_init_c5 62 (r := (2458, .putfield 570, 3)) rfl
theorem dX16_init_2461 : decode cX16_init 2461 = .ok (.aload_n 0, 1) := dk_get daX16_init_c5 63 (r := (2461, .aload_n 0, 1)) rfl
theorem dX16_init_2462 : decode cX16_init 2462 = .ok (.bipush 21, 2) := dk_get daX16_init_c5 64 (r := (2462, .bipush 21, 2)) rfl
theorem dX16_init_2464 : decode cX16_init 2464 = .ok (.newarray .int, 2) := dk_get daX16_init_c5 65 (r := (2464, .newarray .int, 2)) rfl
theorem dX16_init_2466 : decode cX16_init 2466 = .ok (.dup, 1) := dk_get daX16_init_c5 66 (r := (2466, .dup, 1)) rfl
theorem dX16_init_2467 : decode cX16_init 2467 = .ok (.iconst 0, 1) := dk_get daX16_init_c5 67 (r := (2467, .iconst 0, 1)) rfl
theorem dX16_init_2468 : decode cX16_init 2468 = .ok (.iconst 1, 1) := dk_get daX16_init_c5 68 (r := (2468, .iconst 1, 1)) rfl
theorem dX16_init_2469 : decode cX16_init 2469 = .ok (.iastore, 1) := dk_get daX16_init_c5 69 (r := (2469, .iastore, 1)) rfl
theorem dX16_init_2470 : decode cX16_init 2470 = .ok (.dup, 1) := dk_get daX16_init_c5 70 (r := (2470, .dup, 1)) rfl
theorem dX16_init_2471 : decode cX16_init 2471 = .ok (.iconst 1, 1) := dk_get daX16_init_c5 71 (r := (2471, .iconst 1, 1)) rfl
theorem dX16_init_2472 : decode cX16_init 2472 = .ok (.iconst 0, 1) := dk_get daX16_init_c5 72 (r := (2472, .iconst 0, 1)) rfl
theorem dX16_init_2473 : decode cX16_init 2473 = .ok (.iastore, 1) := dk_get daX16_init_c5 73 (r := (2473, .iastore, 1)) rfl
theorem dX16_init_2474 : decode cX16_init 2474 = .ok (.dup, 1) := dk_get daX16_init_c5 74 (r := (2474, .dup, 1)) rfl
theorem dX16_init_2475 : decode cX16_init 2475 = .ok (.iconst 2, 1) := dk_get daX16_init_c5 75 (r := (2475, .iconst 2, 1)) rfl
theorem dX16_init_2476 : decode cX16_init 2476 = .ok (.iconst 1, 1) := dk_get daX16_init_c5 76 (r := (2476, .iconst 1, 1)) rfl
theorem dX16_init_2477 : decode cX16_init 2477 = .ok (.iastore, 1) := dk_get daX16_init_c5 77 (r := (2477, .iastore, 1)) rfl
theorem dX16_init_2478 : decode cX16_init 2478 = .ok (.dup, 1) := dk_get daX16_init_c5 78 (r := (2478, .dup, 1)) rfl
theorem dX16_init_2479 : decode cX16_init 2479 = .ok (.iconst 3, 1) := dk_get daX16_init_c5 79 (r := (2479, .iconst 3, 1)) rfl
theorem dX16_init_2480 : decode cX16_init 2480 = .ok (.iconst 0, 1) := dk_get daX16_init_c5 80 (r := (2480, .iconst 0, 1)) rfl
theorem dX16_init_2481 : decode cX16_init 2481 = .ok (.iastore, 1) := dk_get daX16_init_c5 81 (r := (2481, .iastore, 1)) rfl
theorem dX16_init_2482 : decode cX16_init 2482 = .ok (.dup, 1) := dk_get daX16_init_c5 82 (r := (2482, .dup, 1)) rfl
theorem dX16_init_2483 : decode cX16_init 2483 = .ok (.iconst 4, 1) := dk_get daX16_init_c5 83 (r := (2483, .iconst 4, 1)) rfl
theorem dX16_init_2484 : decode cX16_init 2484 = .ok (.iconst 2, 1) := dk_get daX16_init_c5 84 (r := (2484, .iconst 2, 1)) rfl
theorem dX16_init_2485 : decode cX16_init 2485 = .ok (.iastore, 1) := dk_get daX16_init_c5 85 (r := (2485, .iastore, 1)) rfl
theorem dX16_init_2486 : decode cX16_init 2486 = .ok (.dup, 1) := dk_get daX16_init_c5 86 (r := (2486, .dup, 1)) rfl
theorem dX16_init_2487 : decode cX16_init 2487 = .ok (.iconst 5, 1) := dk_get daX16_init_c5 87 (r := (2487, .iconst 5, 1)) rfl
theorem dX16_init_2488 : decode cX16_init 2488 = .ok (.iconst 2, 1) := dk_get daX16_init_c5 88 (r := (2488, .iconst 2, 1)) rfl
theorem dX16_init_2489 : decode cX16_init 2489 = .ok (.iastore, 1) := dk_get daX16_init_c5 89 (r := (2489, .iastore, 1)) rfl
theorem dX16_init_2490 : decode cX16_init 2490 = .ok (.dup, 1) := dk_get daX16_init_c5 90 (r := (2490, .dup, 1)) rfl
theorem dX16_init_2491 : decode cX16_init 2491 = .ok (.bipush 6, 2) := dk_get daX16_init_c5 91 (r := (2491, .bipush 6, 2)) rfl
theorem dX16_init_2493 : decode cX16_init 2493 = .ok (.iconst 3, 1) := dk_get daX16_init_c5 92 (r := (2493, .iconst 3, 1)) rfl
theorem dX16_init_2494 : decode cX16_init 2494 = .ok (.iastore, 1) := dk_get daX16_init_c5 93 (r := (2494, .iastore, 1)) rfl
theorem dX16_init_2495 : decode cX16_init 2495 = .ok (.dup, 1) := dk_get daX16_init_c5 94 (r := (2495, .dup, 1)) rfl
theorem dX16_init_2496 : decode cX16_init 2496 = .ok (.bipush 7, 2) := dk_get daX16_init_c5 95 (r := (2496, .bipush 7, 2)) rfl
theorem dX16_init_2498 : decode cX16_init 2498 = .ok (.iconst 4, 1) := dk_get daX16_init_c5 96 (r := (2498, .iconst 4, 1)) rfl
theorem dX16_init_2499 : decode cX16_init 2499 = .ok (.iastore, 1) := dk_get daX16_init_c5 97 (r := (2499, .iastore, 1)) rfl
theorem dX16_init_2500 : decode cX16_init 2500 = .ok (.dup, 1) := dk_get daX16_init_c5 98 (r := (2500, .dup, 1)) rfl
theorem dX16_init_2501 : decode cX16_init 2501 = .ok (.bipush 8, 2) := dk_get daX16_init_c5 99 (r := (2501, .bipush 8, 2)) rfl
theorem dX16_init_2503 : decode cX16_init 2503 = .ok (.bipush 6, 2) := dk_get daX16_init_c5 100 (r := (2503, .bipush 6, 2)) rfl
theorem dX16_init_2505 : decode cX16_init 2505 = .ok (.iastore, 1) := dk_get daX16_init_c5 101 (r := (2505, .iastore, 1)) rfl
theorem dX16_init_2506 : decode cX16_init 2506 = .ok (.dup, 1) := dk_get daX16_init_c5 102 (r := (2506, .dup, 1)) rfl
theorem dX16_init_2507 : decode cX16_init 2507 = .ok (.bipush 9, 2) := dk_get daX16_init_c5 103 (r := (2507, .bipush 9, 2)) rfl
theorem dX16_init_2509 : decode cX16_init 2509 = .ok (.iconst 4, 1) := dk_get daX16_init_c5 104 (r := (2509, .iconst 4, 1)) rfl
theorem dX16_init_2510 : decode cX16_init 2510 = .ok (.iastore, 1) := dk_get daX16_init_c5 105 (r := (2510, .iastore, 1)) rfl
theorem dX16_init_2511 : decode cX16_init 2511 = .ok (.dup, 1) := dk_get daX16_init_c5 106 (r := (2511, .dup, 1)) rfl
theorem dX16_init_2512 : decode cX16_init 2512 = .ok (.bipush 10, 2) := dk_get daX16_init_c5 107 (r := (2512, .bipush 10, 2)) rfl
theorem dX16_init_2514 : decode cX16_init 2514 = .ok (.iconst 1, 1) := dk_get daX16_init_c5 108 (r := (2514, .iconst 1, 1)) rfl
theorem dX16_init_2515 : decode cX16_init 2515 = .ok (.iastore, 1) := dk_get daX16_init_c5 109 (r := (2515, .iastore, 1)) rfl
theorem dX16_init_2516 : decode cX16_init 2516 = .ok (.dup, 1) := dk_get daX16_init_c5 110 (r := (2516, .dup, 1)) rfl
theorem dX16_init_2517 : decode cX16_init 2517 = .ok (.bipush 11, 2) := dk_get daX16_init_c5 111 (r := (2517, .bipush 11, 2)) rfl
theorem dX16_init_2519 : decode cX16_init 2519 = .ok (.iconst 0, 1) := dk_get daX16_init_c5 112 (r := (2519, .iconst 0, 1)) rfl
theorem dX16_init_2520 : decode cX16_init 2520 = .ok (.iastore, 1) := dk_get daX16_init_c5 113 (r := (2520, .iastore, 1)) rfl
theorem dX16_init_2521 : decode cX16_init 2521 = .ok (.dup, 1) := dk_get daX16_init_c5 114 (r := (2521, .dup, 1)) rfl
theorem dX16_init_2522 : decode cX16_init 2522 = .ok (.bipush 12, 2) := dk_get daX16_init_c5 115 (r := (2522, .bipush 12, 2)) rfl
theorem dX16_init_2524 : decode cX16_init 2524 = .ok (.iconst 1, 1) := dk_get daX16_init_c5 116 (r := (2524, .iconst 1, 1)) rfl
theorem dX16_init_2525 : decode cX16_init 2525 = .ok (.iastore, 1) := dk_get daX16_init_c5 117 (r := (2525, .iastore, 1)) rfl
theorem dX16_init_2526 : decode cX16_init 2526 = .ok (.dup, 1) := dk_get daX16_init_c5 118 (r := (2526, .dup, 1)) rfl
theorem dX16_init_2527 : decode cX16_init 2527 = .ok (.bipush 13, 2) := dk_get daX16_init_c5 119 (r := (2527, .bipush 13, 2)) rfl
theorem dX16_init_2529 : decode cX16_init 2529 = .ok (.iconst 1, 1) := dk_get daX16_init_c5 120 (r := (2529, .iconst 1, 1)) rfl
theorem dX16_init_2530 : decode cX16_init 2530 = .ok (.iastore, 1) := dk_get daX16_init_c5 121 (r := (2530, .iastore, 1)) rfl
theorem dX16_init_2531 : decode cX16_init 2531 = .ok (.dup, 1) := dk_get daX16_init_c5 122 (r := (2531, .dup, 1)) rfl
theorem dX16_init_2532 : decode cX16_init 2532 = .ok (.bipush 14, 2) := dk_get daX16_init_c5 123 (r := (2532, .bipush 14, 2)) rfl
theorem dX16_init_2534 : decode cX16_init 2534 = .ok (.iconst 2, 1) := dk_get daX16_init_c5 124 (r := (2534, .iconst 2, 1)) rfl
theorem dX16_init_2535 : decode cX16_init 2535 = .ok (.iastore, 1) := dk_get daX16_init_c5 125 (r := (2535, .iastore, 1)) rfl
theorem dX16_init_2536 : decode cX16_init 2536 = .ok (.dup, 1) := dk_get daX16_init_c5 126 (r := (2536, .dup, 1)) rfl
theorem dX16_init_2537 : decode cX16_init 2537 = .ok (.bipush 15, 2) := dk_get daX16_init_c5 127 (r := (2537, .bipush 15, 2)) rfl
theorem dX16_init_2539 : decode cX16_init 2539 = .ok (.iconst 2, 1) := dk_get daX16_init_c5 128 (r := (2539, .iconst 2, 1)) rfl
theorem dX16_init_2540 : decode cX16_init 2540 = .ok (.iastore, 1) := dk_get daX16_init_c5 129 (r := (2540, .iastore, 1)) rfl
theorem dX16_init_2541 : decode cX16_init 2541 = .ok (.dup, 1) := dk_get daX16_init_c5 130 (r := (2541, .dup, 1)) rfl
theorem dX16_init_2542 : decode cX16_init 2542 = .ok (.bipush 16, 2) := dk_get daX16_init_c5 131 (r := (2542, .bipush 16, 2)) rfl
theorem dX16_init_2544 : decode cX16_init 2544 = .ok (.iconst 2, 1) := dk_get daX16_init_c5 132 (r := (2544, .iconst 2, 1)) rfl
theorem dX16_init_2545 : decode cX16_init 2545 = .ok (.iastore, 1) := dk_get daX16_init_c5 133 (r := (2545, .iastore, 1)) rfl
theorem dX16_init_2546 : decode cX16_init 2546 = .ok (.dup, 1) := dk_get daX16_init_c5 134 (r := (2546, .dup, 1)) rfl
theorem dX16_init_2547 : decode cX16_init 2547 = .ok (.bipush 17, 2) := dk_get daX16_init_c5 135 (r := (2547, .bipush 17, 2)) rfl
theorem dX16_init_2549 : decode cX16_init 2549 = .ok (.iconst 2, 1) := dk_get daX16_init_c5 136 (r := (2549, .iconst 2, 1)) rfl
theorem dX16_init_2550 : decode cX16_init 2550 = .ok (.iastore, 1) := dk_get daX16_init_c5 137 (r := (2550, .iastore, 1)) rfl
theorem dX16_init_2551 : decode cX16_init 2551 = .ok (.dup, 1) := dk_get daX16_init_c5 138 (r := (2551, .dup, 1)) rfl
theorem dX16_init_2552 : decode cX16_init 2552 = .ok (.bipush 18, 2) := dk_get daX16_init_c5 139 (r := (2552, .bipush 18, 2)) rfl
theorem dX16_init_2554 : decode cX16_init 2554 = .ok (.iconst 3, 1) := dk_get daX16_init_c5 140 (r := (2554, .iconst 3, 1)) rfl
theorem dX16_init_2555 : decode cX16_init 2555 = .ok (.iastore, 1) := dk_get daX16_init_c5 141 (r := (2555, .iastore, 1)) rfl
theorem dX16_init_2556 : decode cX16_init 2556 = .ok (.dup, 1) := dk_get daX16_init_c5 142 (r := (2556, .dup, 1)) rfl
theorem dX16_init_2557 : decode cX16_init 2557 = .ok (.bipush 19, 2) := dk_get daX16_init_c5 143 (r := (2557, .bipush 19, 2)) rfl
theorem dX16_init_2559 : decode cX16_init 2559 = .ok (.iconst 2, 1) := dk_get daX16_init_c5 144 (r := (2559, .iconst 2, 1)) rfl
theorem dX16_init_2560 : decode cX16_init 2560 = .ok (.iastore, 1) := dk_get daX16_init_c5 145 (r := (2560, .iastore, 1)) rfl
theorem dX16_init_2561 : decode cX16_init 2561 = .ok (.dup, 1) := dk_get daX16_init_c5 146 (r := (2561, .dup, 1)) rfl
theorem dX16_init_2562 : decode cX16_init 2562 = .ok (.bipush 20, 2) := dk_get daX16_init_c5 147 (r := (2562, .bipush 20, 2)) rfl
theorem dX16_init_2564 : decode cX16_init 2564 = .ok (.iconst 2, 1) := dk_get daX16_init_c5 148 (r := (2564, .iconst 2, 1)) rfl
theorem dX16_init_2565 : decode cX16_init 2565 = .ok (.iastore, 1) := dk_get daX16_init_c5 149 (r := (2565, .iastore, 1)) rfl
theorem dX16_init_2566 : decode cX16_init 2566 = .ok (.putfield 603, 3) := dk_get daX16_init_c5 150 (r := (2566, .putfield 603, 3)) rfl
theorem dX16_init_2569 : decode cX16_init 2569 = .ok (.aload_n 0, 1) := dk_get daX16_init_c5 151 (r := (2569, .aload_n 0, 1)) rfl
theorem dX16_init_2570 : decode cX16_init 2570 = .ok (.bipush 32, 2) := dk_get daX16_init_c5 152 (r := (2570, .bipush 32, 2)) rfl
theorem dX16_init_2572 : decode cX16_init 2572 = .ok (.newarray .byte, 2) := dk_get daX16_init_c5 153 (r := (2572, .newarray .byte, 2)) rfl
theorem dX16_init_2574 : decode cX16_init 2574 = .ok (.putfield 636, 3) := dk_get daX16_init_c5 154 (r := (2574, .putfield 636, 3)) rfl
theorem dX16_init_2577 : decode cX16_init 2577 = .ok (.aload_n 0, 1) := dk_get daX16_init_c5 155 (r := (2577, .aload_n 0, 1)) rfl
theorem dX16_init_2578 : decode cX16_init 2578 = .ok (.sipush 1700, 3) := dk_get daX16_init_c5 156 (r := (2578, .sipush 1700, 3)) rfl
theorem dX16_init_2581 : decode cX16_init 2581 = .ok (.newarray .byte, 2) := dk_get daX16_init_c5 157 (r := (2581, .newarray .byte, 2)) rfl
theorem dX16_init_2583 : decode cX16_init 2583 = .ok (.putfield 645, 3) := dk_get daX16_init_c5 158 (r := (2583, .putfield 645, 3)) rfl
theorem dX16_init_2586 : decode cX16_init 2586 = .ok (.aload_n 0, 1) := dk_get daX16_init_c5 159 (r := (2586, .aload_n 0, 1)) rfl
theorem dX16_init_2587 : decode cX16_init 2587 = .ok (.sipush 1700, 3) := dk_get daX16_init_c5 160 (r := (2587, .sipush 1700, 3)) rfl
theorem dX16_init_2590 : decode cX16_init 2590 = .ok (.newarray .byte, 2) := dk_get daX16_init_c5 161 (r := (2590, .newarray .byte, 2)) rfl
theorem dX16_init_2592 : decode cX16_init 2592 = .ok (.putfield 648, 3) := dk_get daX16_init_c5 162 (r := (2592, .putfield 648, 3)) rfl
theorem dX16_init_2595 : decode cX16_init 2595 = .ok (.aload_n 0, 1) := dk_get daX16_init_c5 163 (r := (2595, .aload_n 0, 1)) rfl
theorem dX16_init_2596 : decode cX16_init 2596 = .ok (.sipush 16384, 3) := dk_get daX16_init_c5 164 (r := (2596, .sipush 16384, 3)) rfl
theorem dX16_init_2599 : decode cX16_init 2599 = .ok (.newarray .byte, 2) := dk_get daX16_init_c5 165 (r := (2599, .newarray .byte, 2)) rfl
theorem dX16_init_2601 : decode cX16_init 2601 = .ok (.putfield 650, 3) := dk_get daX16_init_c5 166 (r := (2601, .putfield 650, 3)) rfl
theorem dX16_init_2604 : decode cX16_init 2604 = .ok (.aload_n 0, 1) := dk_get daX16_init_c5 167 (r := (2604, .aload_n 0, 1)) rfl
theorem dX16_init_2605 : decode cX16_init 2605 = .ok (.bipush 12, 2) := dk_get daX16_init_c5 168 (r := (2605, .bipush 12, 2)) rfl
theorem dX16_init_2607 : decode cX16_init 2607 = .ok (.newarray .long, 2) := dk_get daX16_init_c5 169 (r := (2607, .newarray .long, 2)) rfl
theorem dX16_init_2609 : decode cX16_init 2609 = .ok (.putfield 729, 3) := dk_get daX16_init_c5 170 (r := (2609, .putfield 729, 3)) rfl
theorem dX16_init_2612 : decode cX16_init 2612 = .ok (.aload_n 0, 1) := dk_get daX16_init_c5 171 (r := (2612, .aload_n 0, 1)) rfl
theorem dX16_init_2613 : decode cX16_init 2613 = .ok (.bipush 12, 2) := dk_get daX16_init_c5 172 (r := (2613, .bipush 12, 2)) rfl
theorem dX16_init_2615 : decode cX16_init 2615 = .ok (.newarray .long, 2) := dk_get daX16_init_c5 173 (r := (2615, .newarray .long, 2)) rfl
theorem dX16_init_2617 : decode cX16_init 2617 = .ok (.putfield 764, 3) := dk_get daX16_init_c5 174 (r := (2617, .putfield 764, 3)) rfl
theorem dX16_init_2620 : decode cX16_init 2620 = .ok (.aload_n 0, 1) := dk_get daX16_init_c5 175 (r := (2620, .aload_n 0, 1)) rfl
theorem dX16_init_2621 : decode cX16_init 2621 = .ok (.bipush 12, 2) := dk_get daX16_init_c5 176 (r := (2621, .bipush 12, 2)) rfl
theorem dX16_init_2623 : decode cX16_init 2623 = .ok (.newarray .int, 2) := dk_get daX16_init_c5 177 (r := (2623, .newarray .int, 2)) rfl
theorem dX16_init_2625 : decode cX16_init 2625 = .ok (.putfield 732, 3) := dk_get daX16_init_c5 178 (r := (2625, .putfield 732, 3)) rfl
theorem dX16_init_2628 : decode cX16_init 2628 = .ok (.aload_n 0, 1) := dk_get daX16_init_c5 179 (r := (2628, .aload_n 0, 1)) rfl
theorem dX16_init_2629 : decode cX16_init 2629 = .ok (.bipush 12, 2) := dk_get daX16_init_c5 180 (r := (2629, .bipush 12, 2)) rfl
theorem dX16_init_2631 : decode cX16_init 2631 = .ok (.newarray .int, 2) := dk_get daX16_init_c5 181 (r := (2631, .newarray .int, 2)) rfl
theorem dX16_init_2633 : decode cX16_init 2633 = .ok (.putfield 752, 3) := dk_get daX16_init_c5 182 (r := (2633, .putfield 752, 3)) rfl
theorem dX16_init_2636 : decode cX16_init 2636 = .ok (.aload_n 0, 1) := dk_get daX16_init_c5 183 (r := (2636, .aload_n 0, 1)) rfl
theorem dX16_init_2637 : decode cX16_init 2637 = .ok (.sipush 2592, 3) := dk_get daX16_init_c5 184 (r := (2637, .sipush 2592, 3)) rfl
theorem dX16_init_2640 : decode cX16_init 2640 = .ok (.newarray .byte, 2) := dk_get daX16_init_c5 185 (r := (2640, .newarray .byte, 2)) rfl
theorem dX16_init_2642 : decode cX16_init 2642 = .ok (.putfield 738, 3) := dk_get daX16_init_c5 186 (r := (2642, .putfield 738, 3)) rfl
theorem dX16_init_2645 : decode cX16_init 2645 = .ok (.aload_n 0, 1) := dk_get daX16_init_c5 187 (r := (2645, .aload_n 0, 1)) rfl
theorem dX16_init_2646 : decode cX16_init 2646 = .ok (.bipush 72, 2) := dk_get daX16_init_c5 188 (r := (2646, .bipush 72, 2)) rfl
theorem dX16_init_2648 : decode cX16_init 2648 = .ok (.newarray .long, 2) := dk_get daX16_init_c5 189 (r := (2648, .newarray .long, 2)) rfl
theorem dX16_init_2650 : decode cX16_init 2650 = .ok (.putfield 749, 3) := dk_get daX16_init_c5 190 (r := (2650, .putfield 749, 3)) rfl
theorem dX16_init_2653 : decode cX16_init 2653 = .ok (.aload_n 0, 1) := dk_get daX16_init_c5 191 (r := (2653, .aload_n 0, 1)) rfl
theorem dX16_init_2654 : decode cX16_init 2654 = .ok (.bipush 72, 2) := dk_get daX16_init_c5 192 (r := (2654, .bipush 72, 2)) rfl
theorem dX16_init_2656 : decode cX16_init 2656 = .ok (.sipush 600, 3) := dk_get daX16_init_c5 193 (r := (2656, .sipush 600, 3)) rfl
theorem dX16_init_2659 : decode cX16_init 2659 = .ok (.multianewarray 799 2, 4) := dk_get daX16_init_c5 194 (r := (2659, .multianewarray 799 2, 4)) rfl
theorem dX16_init_2663 : decode cX16_init 2663 = .ok (.putfield 746, 3) := dk_get daX16_init_c5 195 (r := (2663, .putfield 746, 3)) rfl
theorem dX16_init_2666 : decode cX16_init 2666 = .ok (.aload_n 0, 1) := dk_get daX16_init_c5 196 (r := (2666, .aload_n 0, 1)) rfl
theorem dX16_init_2667 : decode cX16_init 2667 = .ok (.bipush 72, 2) := dk_get daX16_init_c5 197 (r := (2667, .bipush 72, 2)) rfl
theorem dX16_init_2669 : decode cX16_init 2669 = .ok (.newarray .int, 2) := dk_get daX16_init_c5 198 (r := (2669, .newarray .int, 2)) rfl
theorem dX16_init_2671 : decode cX16_init 2671 = .ok (.putfield 743, 3) := dk_get daX16_init_c5 199 (r := (2671, .putfield 743, 3)) rfl
theorem dX16_init_2674 : decode cX16_init 2674 = .ok (.aload_n 0, 1) := dk_get daX16_init_c5 200 (r := (2674, .aload_n 0, 1)) rfl
theorem dX16_init_2675 : decode cX16_init 2675 = .ok (.bipush 72, 2) := dk_get daX16_init_c5 201 (r := (2675, .bipush 72, 2)) rfl
theorem dX16_init_2677 : decode cX16_init 2677 = .ok (.newarray .long, 2) := dk_get daX16_init_c5 202 (r := (2677, .newarray .long, 2)) rfl
theorem dX16_init_2679 : decode cX16_init 2679 = .ok (.putfield 755, 3) := dk_get daX16_init_c5 203 (r := (2679, .putfield 755, 3)) rfl
theorem dX16_init_2682 : decode cX16_init 2682 = .ok (.aload_n 0, 1) := dk_get daX16_init_c5 204 (r := (2682, .aload_n 0, 1)) rfl
theorem dX16_init_2683 : decode cX16_init 2683 = .ok (.bipush 72, 2) := dk_get daX16_init_c5 205 (r := (2683, .bipush 72, 2)) rfl
theorem dX16_init_2685 : decode cX16_init 2685 = .ok (.sipush 600, 3) := dk_get daX16_init_c5 206 (r := (2685, .sipush 600, 3)) rfl
theorem dX16_init_2688 : decode cX16_init 2688 = .ok (.multianewarray 799 2, 4) := dk_get daX16_init_c5 207 (r := (2688, .multianewarray 799 2, 4)) rfl
theorem dX16_init_2692 : decode cX16_init 2692 = .ok (.putfield 761, 3) := dk_get daX16_init_c5 208 (r := (2692, .putfield 761, 3)) rfl
theorem dX16_init_2695 : decode cX16_init 2695 = .ok (.aload_n 0, 1) := dk_get daX16_init_c5 209 (r := (2695, .aload_n 0, 1)) rfl
theorem dX16_init_2696 : decode cX16_init 2696 = .ok (.bipush 72, 2) := dk_get daX16_init_c5 210 (r := (2696, .bipush 72, 2)) rfl
theorem dX16_init_2698 : decode cX16_init 2698 = .ok (.newarray .int, 2) := dk_get daX16_init_c5 211 (r := (2698, .newarray .int, 2)) rfl
theorem dX16_init_2700 : decode cX16_init 2700 = .ok (.putfield 758, 3) := dk_get daX16_init_c5 212 (r := (2700, .putfield 758, 3)) rfl
theorem dX16_init_2703 : decode cX16_init 2703 = .ok (.aload_n 0, 1) := dk_get daX16_init_c5 213 (r := (2703, .aload_n 0, 1)) rfl
theorem dX16_init_2704 : decode cX16_init 2704 = .ok (.ldc_w 800, 3) := dk_get daX16_init_c5 214 (r := (2704, .ldc_w 800, 3)) rfl
theorem dX16_init_2707 : decode cX16_init 2707 = .ok (.newarray .byte, 2) := dk_get daX16_init_c5 215 (r := (2707, .newarray .byte, 2)) rfl
theorem dX16_init_2709 : decode cX16_init 2709 = .ok (.putfield 720, 3) := dk_get daX16_init_c5 216 (r := (2709, .putfield 720, 3)) rfl
theorem dX16_init_2712 : decode cX16_init 2712 = .ok (.aload_n 0, 1) := dk_get daX16_init_c5 217 (r := (2712, .aload_n 0, 1)) rfl
theorem dX16_init_2713 : decode cX16_init 2713 = .ok (.sipush 384, 3) := dk_get daX16_init_c5 218 (r := (2713, .sipush 384, 3)) rfl
theorem dX16_init_2716 : decode cX16_init 2716 = .ok (.newarray .byte, 2) := dk_get daX16_init_c5 219 (r := (2716, .newarray .byte, 2)) rfl
theorem dX16_init_2718 : decode cX16_init 2718 = .ok (.putfield 770, 3) := dk_get daX16_init_c5 220 (r := (2718, .putfield 770, 3)) rfl
theorem dX16_init_2721 : decode cX16_init 2721 = .ok (.aload_n 0, 1) := dk_get daX16_init_c5 221 (r := (2721, .aload_n 0, 1)) rfl
theorem dX16_init_2722 : decode cX16_init 2722 = .ok (.sipush 1600, 3) := dk_get daX16_init_c5 222 (r := (2722, .sipush 1600, 3)) rfl
theorem dX16_init_2725 : decode cX16_init 2725 = .ok (.newarray .byte, 2) := dk_get daX16_init_c5 223 (r := (2725, .newarray .byte, 2)) rfl
theorem dX16_init_2727 : decode cX16_init 2727 = .ok (.putfield 801, 3) := dk_get daX16_init_c5 224 (r := (2727, .putfield 801, 3)) rfl
theorem dX16_init_2730 : decode cX16_init 2730 = .ok (.aload_n 0, 1) := dk_get daX16_init_c5 225 (r := (2730, .aload_n 0, 1)) rfl
theorem dX16_init_2731 : decode cX16_init 2731 = .ok (.bipush 8, 2) := dk_get daX16_init_c5 226 (r := (2731, .bipush 8, 2)) rfl
theorem dX16_init_2733 : decode cX16_init 2733 = .ok (.newarray .int, 2) := dk_get daX16_init_c5 227 (r := (2733, .newarray .int, 2)) rfl
theorem dX16_init_2735 : decode cX16_init 2735 = .ok (.putfield 804, 3) := dk_get daX16_init_c5 228 (r := (2735, .putfield 804, 3)) rfl
theorem dX16_init_2738 : decode cX16_init 2738 = .ok (.aload_n 0, 1) := dk_get daX16_init_c5 229 (r := (2738, .aload_n 0, 1)) rfl
theorem dX16_init_2739 : decode cX16_init 2739 = .ok (.bipush 65, 2) := dk_get daX16_init_c5 230 (r := (2739, .bipush 65, 2)) rfl
theorem dX16_init_2741 : decode cX16_init 2741 = .ok (.newarray .byte, 2) := dk_get daX16_init_c5 231 (r := (2741, .newarray .byte, 2)) rfl
theorem dX16_init_2743 : decode cX16_init 2743 = .ok (.putfield 807, 3) := dk_get daX16_init_c5 232 (r := (2743, .putfield 807, 3)) rfl
theorem dX16_init_2746 : decode cX16_init 2746 = .ok (.aload_n 0, 1) := dk_get daX16_init_c5 233 (r := (2746, .aload_n 0, 1)) rfl
theorem dX16_init_2747 : decode cX16_init 2747 = .ok (.new 276, 3) := dk_get daX16_init_c5 234 (r := (2747, .new 276, 3)) rfl
theorem dX16_init_2750 : decode cX16_init 2750 = .ok (.dup, 1) := dk_get daX16_init_c5 235 (r := (2750, .dup, 1)) rfl
theorem dX16_init_2751 : decode cX16_init 2751 = .ok (.invokespecial 788, 3) := dk_get daX16_init_c5 236 (r := (2751, .invokespecial 788, 3)) rfl
theorem dX16_init_2754 : decode cX16_init 2754 = .ok (.putfield 810, 3) := dk_get daX16_init_c5 237 (r := (2754, .putfield 810, 3)) rfl
theorem dX16_init_2757 : decode cX16_init 2757 = .ok (.aload_n 0, 1) := dk_get daX16_init_c5 238 (r := (2757, .aload_n 0, 1)) rfl
theorem dX16_init_2758 : decode cX16_init 2758 = .ok (.bipush 80, 2) := dk_get daX16_init_c5 239 (r := (2758, .bipush 80, 2)) rfl
theorem dX16_init_2760 : decode cX16_init 2760 = .ok (.newarray .byte, 2) := dk_get daX16_init_c5 240 (r := (2760, .newarray .byte, 2)) rfl
theorem dX16_init_2762 : decode cX16_init 2762 = .ok (.putfield 813, 3) := dk_get daX16_init_c5 241 (r := (2762, .putfield 813, 3)) rfl
theorem dX16_init_2765 : decode cX16_init 2765 = .ok (.aload_n 0, 1) := dk_get daX16_init_c5 242 (r := (2765, .aload_n 0, 1)) rfl
theorem dX16_init_2766 : decode cX16_init 2766 = .ok (.bipush 32, 2) := dk_get daX16_init_c5 243 (r := (2766, .bipush 32, 2)) rfl
theorem dX16_init_2768 : decode cX16_init 2768 = .ok (.newarray .byte, 2) := dk_get daX16_init_c5 244 (r := (2768, .newarray .byte, 2)) rfl
theorem dX16_init_2770 : decode cX16_init 2770 = .ok (.putfield 816, 3) := dk_get daX16_init_c5 245 (r := (2770, .putfield 816, 3)) rfl
theorem dX16_init_2773 : decode cX16_init 2773 = .ok (.aload_n 0, 1) := dk_get daX16_init_c5 246 (r := (2773, .aload_n 0, 1)) rfl
theorem dX16_init_2774 : decode cX16_init 2774 = .ok (.bipush 64, 2) := dk_get daX16_init_c5 247 (r := (2774, .bipush 64, 2)) rfl
theorem dX16_init_2776 : decode cX16_init 2776 = .ok (.newarray .byte, 2) := dk_get daX16_init_c5 248 (r := (2776, .newarray .byte, 2)) rfl
theorem dX16_init_2778 : decode cX16_init 2778 = .ok (.putfield 819, 3) := dk_get daX16_init_c5 249 (r := (2778, .putfield 819, 3)) rfl
theorem dX16_init_2781 : decode cX16_init 2781 = .ok (.bipush 8, 2) := dk_get daX16_init_c5 250 (r := (2781, .bipush 8, 2)) rfl
theorem dX16_init_2783 : decode cX16_init 2783 = .ok (.newarray .int, 2) := dk_get daX16_init_c5 251 (r := (2783, .newarray .int, 2)) rfl
theorem dX16_init_2785 : decode cX16_init 2785 = .ok (.dup, 1) := dk_get daX16_init_c5 252 (r := (2785, .dup, 1)) rfl
theorem dX16_init_2786 : decode cX16_init 2786 = .ok (.iconst 0, 1) := dk_get daX16_init_c5 253 (r := (2786, .iconst 0, 1)) rfl
theorem dX16_init_2787 : decode cX16_init 2787 = .ok (.sipush (-977), 3) := dk_get daX16_init_c5 254 (r := (2787, .sipush (-977), 3)) rfl
theorem dX16_init_2790 : decode cX16_init 2790 = .ok (.iastore, 1) := dk_get daX16_init_c5 255 (r := (2790, .iastore, 1)) rfl
theorem dX16_init_2791 : decode cX16_init 2791 = .ok (.dup, 1) := dk_get daX16_init_c5 256 (r := (2791, .dup, 1)) rfl
theorem dX16_init_2792 : decode cX16_init 2792 = .ok (.iconst 1, 1) := dk_get daX16_init_c5 257 (r := (2792, .iconst 1, 1)) rfl
theorem dX16_init_2793 : decode cX16_init 2793 = .ok (.bipush (-2), 2) := dk_get daX16_init_c5 258 (r := (2793, .bipush (-2), 2)) rfl
theorem dX16_init_2795 : decode cX16_init 2795 = .ok (.iastore, 1) := dk_get daX16_init_c5 259 (r := (2795, .iastore, 1)) rfl
theorem dX16_init_2796 : decode cX16_init 2796 = .ok (.dup, 1) := dk_get daX16_init_c5 260 (r := (2796, .dup, 1)) rfl
theorem dX16_init_2797 : decode cX16_init 2797 = .ok (.iconst 2, 1) := dk_get daX16_init_c5 261 (r := (2797, .iconst 2, 1)) rfl
theorem dX16_init_2798 : decode cX16_init 2798 = .ok (.iconst (-1), 1) := dk_get daX16_init_c5 262 (r := (2798, .iconst (-1), 1)) rfl
theorem dX16_init_2799 : decode cX16_init 2799 = .ok (.iastore, 1) := dk_get daX16_init_c5 263 (r := (2799, .iastore, 1)) rfl
theorem dX16_init_2800 : decode cX16_init 2800 = .ok (.dup, 1) := dk_get daX16_init_c5 264 (r := (2800, .dup, 1)) rfl
theorem dX16_init_2801 : decode cX16_init 2801 = .ok (.iconst 3, 1) := dk_get daX16_init_c5 265 (r := (2801, .iconst 3, 1)) rfl
theorem dX16_init_2802 : decode cX16_init 2802 = .ok (.iconst (-1), 1) := dk_get daX16_init_c5 266 (r := (2802, .iconst (-1), 1)) rfl
theorem dX16_init_2803 : decode cX16_init 2803 = .ok (.iastore, 1) := dk_get daX16_init_c5 267 (r := (2803, .iastore, 1)) rfl
theorem dX16_init_2804 : decode cX16_init 2804 = .ok (.dup, 1) := dk_get daX16_init_c5 268 (r := (2804, .dup, 1)) rfl
theorem dX16_init_2805 : decode cX16_init 2805 = .ok (.iconst 4, 1) := dk_get daX16_init_c5 269 (r := (2805, .iconst 4, 1)) rfl
theorem dX16_init_2806 : decode cX16_init 2806 = .ok (.iconst (-1), 1) := dk_get daX16_init_c5 270 (r := (2806, .iconst (-1), 1)) rfl
theorem dX16_init_2807 : decode cX16_init 2807 = .ok (.iastore, 1) := dk_get daX16_init_c5 271 (r := (2807, .iastore, 1)) rfl
theorem dX16_init_2808 : decode cX16_init 2808 = .ok (.dup, 1) := dk_get daX16_init_c5 272 (r := (2808, .dup, 1)) rfl
theorem dX16_init_2809 : decode cX16_init 2809 = .ok (.iconst 5, 1) := dk_get daX16_init_c5 273 (r := (2809, .iconst 5, 1)) rfl
theorem dX16_init_2810 : decode cX16_init 2810 = .ok (.iconst (-1), 1) := dk_get daX16_init_c5 274 (r := (2810, .iconst (-1), 1)) rfl
theorem dX16_init_2811 : decode cX16_init 2811 = .ok (.iastore, 1) := dk_get daX16_init_c5 275 (r := (2811, .iastore, 1)) rfl
theorem dX16_init_2812 : decode cX16_init 2812 = .ok (.dup, 1) := dk_get daX16_init_c5 276 (r := (2812, .dup, 1)) rfl
theorem dX16_init_2813 : decode cX16_init 2813 = .ok (.bipush 6, 2) := dk_get daX16_init_c5 277 (r := (2813, .bipush 6, 2)) rfl
theorem dX16_init_2815 : decode cX16_init 2815 = .ok (.iconst (-1), 1) := dk_get daX16_init_c5 278 (r := (2815, .iconst (-1), 1)) rfl
theorem dX16_init_2816 : decode cX16_init 2816 = .ok (.iastore, 1) := dk_get daX16_init_c5 279 (r := (2816, .iastore, 1)) rfl
theorem dX16_init_2817 : decode cX16_init 2817 = .ok (.dup, 1) := dk_get daX16_init_c5 280 (r := (2817, .dup, 1)) rfl
theorem dX16_init_2818 : decode cX16_init 2818 = .ok (.bipush 7, 2) := dk_get daX16_init_c5 281 (r := (2818, .bipush 7, 2)) rfl
theorem dX16_init_2820 : decode cX16_init 2820 = .ok (.iconst (-1), 1) := dk_get daX16_init_c5 282 (r := (2820, .iconst (-1), 1)) rfl
theorem dX16_init_2821 : decode cX16_init 2821 = .ok (.iastore, 1) := dk_get daX16_init_c5 283 (r := (2821, .iastore, 1)) rfl
theorem dX16_init_2822 : decode cX16_init 2822 = .ok (.astore_n 1, 1) := dk_get daX16_init_c5 284 (r := (2822, .astore_n 1, 1)) rfl
theorem dX16_init_2823 : decode cX16_init 2823 = .ok (.bipush 8, 2) := dk_get daX16_init_c5 285 (r := (2823, .bipush 8, 2)) rfl
theorem dX16_init_2825 : decode cX16_init 2825 = .ok (.newarray .int, 2) := dk_get daX16_init_c5 286 (r := (2825, .newarray .int, 2)) rfl
theorem dX16_init_2827 : decode cX16_init 2827 = .ok (.dup, 1) := dk_get daX16_init_c5 287 (r := (2827, .dup, 1)) rfl
theorem dX16_init_2828 : decode cX16_init 2828 = .ok (.iconst 0, 1) := dk_get daX16_init_c5 288 (r := (2828, .iconst 0, 1)) rfl
theorem dX16_init_2829 : decode cX16_init 2829 = .ok (.ldc_w 822, 3) := dk_get daX16_init_c5 289 (r := (2829, .ldc_w 822, 3)) rfl
theorem dX16_init_2832 : decode cX16_init 2832 = .ok (.iastore, 1) := dk_get daX16_init_c5 290 (r := (2832, .iastore, 1)) rfl
theorem dX16_init_2833 : decode cX16_init 2833 = .ok (.dup, 1) := dk_get daX16_init_c5 291 (r := (2833, .dup, 1)) rfl
theorem dX16_init_2834 : decode cX16_init 2834 = .ok (.iconst 1, 1) := dk_get daX16_init_c5 292 (r := (2834, .iconst 1, 1)) rfl
theorem dX16_init_2835 : decode cX16_init 2835 = .ok (.ldc_w 823, 3) := dk_get daX16_init_c5 293 (r := (2835, .ldc_w 823, 3)) rfl
theorem dX16_init_2838 : decode cX16_init 2838 = .ok (.iastore, 1) := dk_get daX16_init_c5 294 (r := (2838, .iastore, 1)) rfl
theorem dX16_init_2839 : decode cX16_init 2839 = .ok (.dup, 1) := dk_get daX16_init_c5 295 (r := (2839, .dup, 1)) rfl
theorem dX16_init_2840 : decode cX16_init 2840 = .ok (.iconst 2, 1) := dk_get daX16_init_c5 296 (r := (2840, .iconst 2, 1)) rfl
theorem dX16_init_2841 : decode cX16_init 2841 = .ok (.ldc_w 824, 3) := dk_get daX16_init_c5 297 (r := (2841, .ldc_w 824, 3)) rfl
theorem dX16_init_2844 : decode cX16_init 2844 = .ok (.iastore, 1) := dk_get daX16_init_c5 298 (r := (2844, .iastore, 1)) rfl
theorem dX16_init_2845 : decode cX16_init 2845 = .ok (.dup, 1) := dk_get daX16_init_c5 299 (r := (2845, .dup, 1)) rfl
def drX16_init_c6 : List (Nat × Instr × Nat) := [(2846, .iconst 3, 1), (2847, .ldc_w 825, 3), (2850, .iastore, 1), (2851, .dup, 1), (2852, .iconst 4, 1), (2853, .bipush (-2), 2), (2855, .iastore, 1), (2856, .dup, 1), (2857, .iconst 5, 1), (2858, .iconst (-1), 1), (2859, .iastore, 1), (2860, .dup, 1), (2861, .bipush 6, 2), (2863, .iconst (-1), 1), (2864, .iastore, 1), (2865, .dup, 1), (2866, .bipush 7, 2), (2868, .iconst (-1), 1), (2869, .iastore, 1), (2870, .astore_n 2, 1), (2871, .aload_n 0, 1), (2872, .new 96, 3), (2875, .dup, 1), (2876, .aload_n 1, 1), (2877, .invokespecial 826, 3), (2880, .putfield 101, 3), (2883, .aload_n 0, 1), (2884, .new 96, 3), (2887, .dup, 1), (2888, .aload_n 2, 1), (2889, .invokespecial 826, 3), (2892, .putfield 192, 3), (2895, .iconst 0, 1), (2896, .istore_n 3, 1), (2897, .iconst 2, 1), (2898, .istore 4, 2), (2900, .iload_n 3, 1), (2901, .bipush 64, 2), (2903, .if_icmp .ge 55, 3), (2906, .iload 4, 2), (2908, .invokestatic 829, 3), (2911, .ifCond .ne 6, 3), (2914, .goto 38, 3), (2917, .iload_n 3, 1), (2918, .bipush 8, 2), (2920, .if_icmp .ge 16, 3), (2923, .aload_n 0, 1), (2924, .getfield 23, 3), (2927, .iload_n 3, 1), (2928, .aload_n 0, 1), (2929, .iload 4, 2), (2931, .iconst 0, 1), (2932, .invokevirtual 832, 3), (2935, .iastore, 1), (2936, .aload_n 0, 1), (2937, .getfield 48, 3), (2940, .iload_n 3, 1), (2941, .aload_n 0, 1), (2942, .iload 4, 2), (2944, .iconst 1, 1), (2945, .invokevirtual 832, 3), (2948, .iastore, 1), (2949, .iinc 3 1, 3), (2952, .iinc 4 1, 3), (2955, .goto (-55), 3), (2958, .aload_n 0, 1), (2959, .getfield 176, 3), (2962, .iconst 0, 1), (2963, .bipush 7, 2), (2965, .iastore, 1), (2966, .aload_n 0, 1), (2967, .getfield 101, 3), (2970, .aload_n 0, 1), (2971, .getfield 176, 3), (2974, .aload_n 0, 1), (2975, .getfield 176, 3), (2978, .invokevirtual 173, 3), (2981, .bipush 8, 2), (2983, .newarray .int, 2), (2985, .dup, 1), (2986, .iconst 0, 1), (2987, .ldc_w 836, 3), (2990, .iastore, 1), (2991, .dup, 1), (2992, .iconst 1, 1), (2993, .ldc_w 837, 3), (2996, .iastore, 1), (2997, .dup, 1), (2998, .iconst 2, 1), (2999, .ldc_w 838, 3), (3002, .iastore, 1), (3003, .dup, 1), (3004, .iconst 3, 1), (3005, .ldc_w 839, 3), (3008, .iastore, 1), (3009, .dup, 1), (3010, .iconst 4, 1), (3011, .ldc_w 840, 3), (3014, .iastore, 1), (3015, .dup, 1), (3016, .iconst 5, 1), (3017, .ldc_w 841, 3), (3020, .iastore, 1), (3021, .dup, 1), (3022, .bipush 6, 2), (3024, .ldc_w 842, 3), (3027, .iastore, 1), (3028, .dup, 1), (3029, .bipush 7, 2), (3031, .ldc_w 843, 3), (3034, .iastore, 1), (3035, .astore 4, 2), (3037, .bipush 8, 2), (3039, .newarray .int, 2), (3041, .dup, 1), (3042, .iconst 0, 1), (3043, .ldc_w 844, 3), (3046, .iastore, 1), (3047, .dup, 1), (3048, .iconst 1, 1), (3049, .ldc_w 845, 3), (3052, .iastore, 1), (3053, .dup, 1), (3054, .iconst 2, 1), (3055, .ldc_w 846, 3), (3058, .iastore, 1), (3059, .dup, 1), (3060, .iconst 3, 1), (3061, .ldc_w 847, 3), (3064, .iastore, 1), (3065, .dup, 1), (3066, .iconst 4, 1), (3067, .ldc_w 848, 3), (3070, .iastore, 1), (3071, .dup, 1), (3072, .iconst 5, 1), (3073, .ldc_w 849, 3), (3076, .iastore, 1), (3077, .dup, 1), (3078, .bipush 6, 2), (3080, .ldc_w 850, 3), (3083, .iastore, 1), (3084, .dup, 1), (3085, .bipush 7, 2), (3087, .ldc_w 851, 3), (3090, .iastore, 1), (3091, .astore 5, 2), (3093, .aload_n 0, 1), (3094, .getfield 101, 3), (3097, .aload 4, 2), (3099, .aload_n 0, 1), (3100, .getfield 225, 3), (3103, .getfield 115, 3), (3106, .invokevirtual 173, 3), (3109, .aload_n 0, 1), (3110, .getfield 101, 3), (3113, .aload 5, 2), (3115, .aload_n 0, 1), (3116, .getfield 225, 3), (3119, .getfield 105, 3), (3122, .invokevirtual 173, 3), (3125, .aload_n 0, 1), (3126, .getfield 101, 3), (3129, .getfield 179, 3), (3132, .aload_n 0, 1), (3133, .getfield 225, 3), (3136, .getfield 90, 3), (3139, .invokestatic 182, 3), (3142, .ldc_w 852, 3), (3145, .aload_n 0, 1), (3146, .getfield 387, 3), (3149, .invokestatic 376, 3), (3152, .pop, 1), (3153, .aload_n 0, 1), (3154, .ldc2_w 853, 3), (3157, .putfield 855, 3), (3160, .aload_n 0, 1), (3161, .iconst (-1), 1), (3162, .putfield 859, 3), (3165, .aload_n 0, 1), (3166, .getfield 801, 3), (3169, .iconst 0, 1), (3170, .iconst 0, 1), (3171, .bastore, 1), (3172, .aload_n 0, 1), (3173, .getfield 801, 3), (3176, .iconst 1, 1), (3177, .iconst 0, 1), (3178, .bastore, 1), (3179, .aload_n 0, 1), (3180, .iconst 2, 1), (3181, .putfield 862, 3), (3184, .aload_n 0, 1), (3185, .iconst 1, 1), (3186, .putfield 865, 3), (3189, .aload_n 0, 1), (3190, .getfield 729, 3), (3193, .iconst 0, 1), (3194, .lconst 1, 1), (3195, .lastore, 1), (3196, .aload_n 0, 1), (3197, .iconst 0, 1), (3198, .ldc2_w 380, 3), (3201, .invokevirtual 868, 3), (3204, .aload_n 0, 1), (3205, .getfield 801, 3), (3208, .iconst 0, 1), (3209, .bipush 81, 2), (3211, .bastore, 1), (3212, .aload_n 0, 1), (3213, .iconst 1, 1), (3214, .putfield 862, 3), (3217, .aload_n 0, 1), (3218, .ldc2_w 485, 3), (3221, .invokevirtual 872, 3), (3224, .aload_n 0, 1), (3225, .iconst 0, 1), (3226, .invokevirtual 875, 3), (3229, .aload_n 0, 1), (3230, .aload_n 0, 1), (3231, .getfield 720, 3), (3234, .aload_n 0, 1), (3235, .getfield 723, 3), (3238, .iconst (-1), 1), (3239, .invokevirtual 878, 3), (3242, .aload_n 0, 1), (3243, .iconst 0, 1), (3244, .putfield 881, 3), (3247, .aload_n 0, 1), (3248, .iconst 0, 1), (3249, .putfield 464, 3), (3252, .aload_n 0, 1), (3253, .iconst 0, 1), (3254, .invokevirtual 490, 3), (3257, .pop, 1), (3258, .aload_n 0, 1), (3259, .invokevirtual 884, 3), (3262, .aload_n 0, 1), (3263, .iconst 0, 1), (3264, .putfield 865, 3), (3267, .aload_n 0, 1), (3268, .iconst 0, 1), (3269, .putfield 859, 3), (3272, .aload_n 0, 1), (3273, .ldc2_w 886, 3), (3276, .putfield 855, 3), (3279, .return_, 1)]
set_option maxRecDepth 100000 in
theorem daX16_init_c6 : dk_all cX16_init drX16_init_c6 = true := by decide +kernel
theorem dX16_init_2846 : decode cX16_init 2846 = .ok (.iconst 3, 1) := dk_get daX16_init_c6 0 (r := (2846, .iconst 3, 1)) rfl
theorem dX16_init_2847 : decode cX16_init 2847 = .ok (.ldc_w 825, 3) := dk_get daX16_init_c6 1 (r := (2847, .ldc_w 825, 3)) rfl
theorem dX16_init_2850 : decode cX16_init 2850 = .ok (.iastore, 1) := dk_get daX16_init_c6 2 (r := (2850, .iastore, 1)) rfl
theorem dX16_init_2851 : decode cX16_init 2851 = .ok (.dup, 1) := dk_get daX16_init_c6 3 (r := (2851, .dup, 1)) rfl
theorem dX16_init_2852 : decode cX16_init 2852 = .ok (.iconst 4, 1) := dk_get daX16_init_c6 4 (r := (2852, .iconst 4, 1)) rfl
theorem dX16_init_2853 : decode cX16_init 2853 = .ok (.bipush (-2), 2) := dk_get daX16_init_c6 5 (r := (2853, .bipush (-2), 2)) rfl
theorem dX16_init_2855 : decode cX16_init 2855 = .ok (.iastore, 1) := dk_get daX16_init_c6 6 (r := (2855, .iastore, 1)) rfl
theorem dX16_init_2856 : decode cX16_init 2856 = .ok (.dup, 1) := dk_get daX16_init_c6 7 (r := (2856, .dup, 1)) rfl
theorem dX16_init_2857 : decode cX16_init 2857 = .ok (.iconst 5, 1) := dk_get daX16_init_c6 8 (r := (2857, .iconst 5, 1)) rfl
theorem dX16_init_2858 : decode cX16_init 2858 = .ok (.iconst (-1), 1) := dk_get daX16_init_c6 9 (r := (2858, .iconst (-1), 1)) rfl
theorem dX16_init_2859 : decode cX16_init 2859 = .ok (.iastore, 1) := dk_get daX16_init_c6 10 (r := (2859, .iastore, 1)) rfl
theorem dX16_init_2860 : decode cX16_init 2860 = .ok (.dup, 1) := dk_get daX16_init_c6 11 (r := (2860, .dup, 1)) rfl
theorem dX16_init_2861 : decode cX16_init 2861 = .ok (.bipush 6, 2) := dk_get daX16_init_c6 12 (r := (2861, .bipush 6, 2)) rfl
theorem dX16_init_2863 : decode cX16_init 2863 = .ok (.iconst (-1), 1) := dk_get daX16_init_c6 13 (r := (2863, .iconst (-1), 1)) rfl
theorem dX16_init_2864 : decode cX16_init 2864 = .ok (.iastore, 1) := dk_get daX16_init_c6 14 (r := (2864, .iastore, 1)) rfl
theorem dX16_init_2865 : decode cX16_init 2865 = .ok (.dup, 1) := dk_get daX16_init_c6 15 (r := (2865, .dup, 1)) rfl
theorem dX16_init_2866 : decode cX16_init 2866 = .ok (.bipush 7, 2) := dk_get daX16_init_c6 16 (r := (2866, .bipush 7, 2)) rfl
theorem dX16_init_2868 : decode cX16_init 2868 = .ok (.iconst (-1), 1) := dk_get daX16_init_c6 17 (r := (2868, .iconst (-1), 1)) rfl
theorem dX16_init_2869 : decode cX16_init 2869 = .ok (.iastore, 1) := dk_get daX16_init_c6 18 (r := (2869, .iastore, 1)) rfl
theorem dX16_init_2870 : decode cX16_init 2870 = .ok (.astore_n 2, 1) := dk_get daX16_init_c6 19 (r := (2870, .astore_n 2, 1)) rfl
theorem dX16_init_2871 : decode cX16_init 2871 = .ok (.aload_n 0, 1) := dk_get daX16_init_c6 20 (r := (2871, .aload_n 0, 1)) rfl
theorem dX16_init_2872 : decode cX16_init 2872 = .ok (.new 96, 3) := dk_get daX16_init_c6 21 (r := (2872, .new 96, 3)) rfl
theorem dX16_init_2875 : decode cX16_init 2875 = .ok (.dup, 1) := dk_get daX16_init_c6 22 (r := (2875, .dup, 1)) rfl
theorem dX16_init_2876 : decode cX16_init 2876 = .ok (.aload_n 1, 1) := dk_get daX16_init_c6 23 (r := (2876, .aload_n 1, 1)) rfl
theorem dX16_init_2877 : decode cX16_init 2877 = .ok (.invokespecial 826, 3) := dk_get daX16_init_c6 24 (r := (2877, .invokespecial 826, 3)) rfl
theorem dX16_init_2880 : decode cX16_init 2880 = .ok (.putfield 101, 3) := dk_get daX16_init_c6 25 (r := (2880, .putfield 101, 3)) rfl
theorem dX16_init_2883 : decode cX16_init 2883 = .ok (.aload_n 0, 1) := dk_get daX16_init_c6 26 (r := (2883, .aload_n 0, 1)) rfl
theorem dX16_init_2884 : decode cX16_init 2884 = .ok (.new 96, 3) := dk_get daX16_init_c6 27 (r := (2884, .new 96, 3)) rfl
theorem dX16_init_2887 : decode cX16_init 2887 = .ok (.dup, 1) := dk_get daX16_init_c6 28 (r := (2887, .dup, 1)) rfl
theorem dX16_init_2888 : decode cX16_init 2888 = .ok (.aload_n 2, 1) := dk_get daX16_init_c6 29 (r := (2888, .aload_n 2, 1)) rfl
theorem dX16_init_2889 : decode cX16_init 2889 = .ok (.invokespecial 826, 3) := dk_get daX16_init_c6 30 (r := (2889, .invokespecial 826, 3)) rfl
theorem dX16_init_2892 : decode cX16_init 2892 = .ok (.putfield 192, 3) := dk_get daX16_init_c6 31 (r := (2892, .putfield 192, 3)) rfl
theorem dX16_init_2895 : decode cX16_init 2895 = .ok (.iconst 0, 1) := dk_get daX16_init_c6 32 (r := (2895, .iconst 0, 1)) rfl
theorem dX16_init_2896 : decode cX16_init 2896 = .ok (.istore_n 3, 1) := dk_get daX16_init_c6 33 (r := (2896, .istore_n 3, 1)) rfl
theorem dX16_init_2897 : decode cX16_init 2897 = .ok (.iconst 2, 1) := dk_get daX16_init_c6 34 (r := (2897, .iconst 2, 1)) rfl
theorem dX16_init_2898 : decode cX16_init 2898 = .ok (.istore 4, 2) := dk_get daX16_init_c6 35 (r := (2898, .istore 4, 2)) rfl
theorem dX16_init_2900 : decode cX16_init 2900 = .ok (.iload_n 3, 1) := dk_get daX16_init_c6 36 (r := (2900, .iload_n 3, 1)) rfl
theorem dX16_init_2901 : decode cX16_init 2901 = .ok (.bipush 64, 2) := dk_get daX16_init_c6 37 (r := (2901, .bipush 64, 2)) rfl
theorem dX16_init_2903 : decode cX16_init 2903 = .ok (.if_icmp .ge 55, 3) := dk_get daX16_init_c6 38 (r := (2903, .if_icmp .ge 55, 3)) rfl
theorem dX16_init_2906 : decode cX16_init 2906 = .ok (.iload 4, 2) := dk_get daX16_init_c6 39 (r := (2906, .iload 4, 2)) rfl
theorem dX16_init_2908 : decode cX16_init 2908 = .ok (.invokestatic 829, 3) := dk_get daX16_init_c6 40 (r := (2908, .invokestatic 829, 3)) rfl
theorem dX16_init_2911 : decode cX16_init 2911 = .ok (.ifCond .ne 6, 3) := dk_get daX16_init_c6 41 (r := (2911, .ifCond .ne 6, 3)) rfl
theorem dX16_init_2914 : decode cX16_init 2914 = .ok (.goto 38, 3) := dk_get daX16_init_c6 42 (r := (2914, .goto 38, 3)) rfl
theorem dX16_init_2917 : decode cX16_init 2917 = .ok (.iload_n 3, 1) := dk_get daX16_init_c6 43 (r := (2917, .iload_n 3, 1)) rfl
theorem dX16_init_2918 : decode cX16_init 2918 = .ok (.bipush 8, 2) := dk_get daX16_init_c6 44 (r := (2918, .bipush 8, 2)) rfl
theorem dX16_init_2920 : decode cX16_init 2920 = .ok (.if_icmp .ge 16, 3) := dk_get daX16_init_c6 45 (r := (2920, .if_icmp .ge 16, 3)) rfl
theorem dX16_init_2923 : decode cX16_init 2923 = .ok (.aload_n 0, 1) := dk_get daX16_init_c6 46 (r := (2923, .aload_n 0, 1)) rfl
theorem dX16_init_2924 : decode cX16_init 2924 = .ok (.getfield 23, 3) := dk_get daX16_init_c6 47 (r := (2924, .getfield 23, 3)) rfl
theorem dX16_init_2927 : decode cX16_init 2927 = .ok (.iload_n 3, 1) := dk_get daX16_init_c6 48 (r := (2927, .iload_n 3, 1)) rfl
theorem dX16_init_2928 : decode cX16_init 2928 = .ok (.aload_n 0, 1) := dk_get daX16_init_c6 49 (r := (2928, .aload_n 0, 1)) rfl
theorem dX16_init_2929 : decode cX16_init 2929 = .ok (.iload 4, 2) := dk_get daX16_init_c6 50 (r := (2929, .iload 4, 2)) rfl
theorem dX16_init_2931 : decode cX16_init 2931 = .ok (.iconst 0, 1) := dk_get daX16_init_c6 51 (r := (2931, .iconst 0, 1)) rfl
theorem dX16_init_2932 : decode cX16_init 2932 = .ok (.invokevirtual 832, 3) := dk_get daX16_init_c6 52 (r := (2932, .invokevirtual 832, 3)) rfl
theorem dX16_init_2935 : decode cX16_init 2935 = .ok (.iastore, 1) := dk_get daX16_init_c6 53 (r := (2935, .iastore, 1)) rfl
theorem dX16_init_2936 : decode cX16_init 2936 = .ok (.aload_n 0, 1) := dk_get daX16_init_c6 54 (r := (2936, .aload_n 0, 1)) rfl
theorem dX16_init_2937 : decode cX16_init 2937 = .ok (.getfield 48, 3) := dk_get daX16_init_c6 55 (r := (2937, .getfield 48, 3)) rfl
theorem dX16_init_2940 : decode cX16_init 2940 = .ok (.iload_n 3, 1) := dk_get daX16_init_c6 56 (r := (2940, .iload_n 3, 1)) rfl
theorem dX16_init_2941 : decode cX16_init 2941 = .ok (.aload_n 0, 1) := dk_get daX16_init_c6 57 (r := (2941, .aload_n 0, 1)) rfl
theorem dX16_init_2942 : decode cX16_init 2942 = .ok (.iload 4, 2) := dk_get daX16_init_c6 58 (r := (2942, .iload 4, 2)) rfl
theorem dX16_init_2944 : decode cX16_init 2944 = .ok (.iconst 1, 1) := dk_get daX16_init_c6 59 (r := (2944, .iconst 1, 1)) rfl
theorem dX16_init_2945 : decode cX16_init 2945 = .ok (.invokevirtual 832, 3) := dk_get daX16_init_c6 60 (r := (2945, .invokevirtual 832, 3)) rfl
theorem dX16_init_2948 : decode cX16_init 2948 = .ok (.iastore, 1) := dk_get daX16_init_c6 61 (r := (2948, .iastore, 1)) rfl
theorem dX16_init_2949 : decode cX16_init 2949 = .ok (.iinc 3 1, 3) := dk_get daX16_init_c6 62 (r := (2949, .iinc 3 1, 3)) rfl
theorem dX16_init_2952 : decode cX16_init 2952 = .ok (.iinc 4 1, 3) := dk_get daX16_init_c6 63 (r := (2952, .iinc 4 1, 3)) rfl
theorem dX16_init_2955 : decode cX16_init 2955 = .ok (.goto (-55), 3) := dk_get daX16_init_c6 64 (r := (2955, .goto (-55), 3)) rfl
theorem dX16_init_2958 : decode cX16_init 2958 = .ok (.aload_n 0, 1) := dk_get daX16_init_c6 65 (r := (2958, .aload_n 0, 1)) rfl
theorem dX16_init_2959 : decode cX16_init 2959 = .ok (.getfield 176, 3) := dk_get daX16_init_c6 66 (r := (2959, .getfield 176, 3)) rfl
theorem dX16_init_2962 : decode cX16_init 2962 = .ok (.iconst 0, 1) := dk_get daX16_init_c6 67 (r := (2962, .iconst 0, 1)) rfl
theorem dX16_init_2963 : decode cX16_init 2963 = .ok (.bipush 7, 2) := dk_get daX16_init_c6 68 (r := (2963, .bipush 7, 2)) rfl
theorem dX16_init_2965 : decode cX16_init 2965 = .ok (.iastore, 1) := dk_get daX16_init_c6 69 (r := (2965, .iastore, 1)) rfl
theorem dX16_init_2966 : decode cX16_init 2966 = .ok (.aload_n 0, 1) := dk_get daX16_init_c6 70 (r := (2966, .aload_n 0, 1)) rfl
theorem dX16_init_2967 : decode cX16_init 2967 = .ok (.getfield 101, 3) := dk_get daX16_init_c6 71 (r := (2967, .getfield 101, 3)) rfl
theorem dX16_init_2970 : decode cX16_init 2970 = .ok (.aload_n 0, 1) := dk_get daX16_init_c6 72 (r := (2970, .aload_n 0, 1)) rfl
theorem dX16_init_2971 : decode cX16_init 2971 = .ok (.getfield 176, 3) := dk_get daX16_init_c6 73 (r := (2971, .getfield 176, 3)) rfl
theorem dX16_init_2974 : decode cX16_init 2974 = .ok (.aload_n 0, 1) := dk_get daX16_init_c6 74 (r := (2974, .aload_n 0, 1)) rfl
theorem dX16_init_2975 : decode cX16_init 2975 = .ok (.getfield 176, 3) := dk_get daX16_init_c6 75 (r := (2975, .getfield 176, 3)) rfl
theorem dX16_init_2978 : decode cX16_init 2978 = .ok (.invokevirtual 173, 3) := dk_get daX16_init_c6 76 (r := (2978, .invokevirtual 173, 3)) rfl
theorem dX16_init_2981 : decode cX16_init 2981 = .ok (.bipush 8, 2) := dk_get daX16_init_c6 77 (r := (2981, .bipush 8, 2)) rfl
theorem dX16_init_2983 : decode cX16_init 2983 = .ok (.newarray .int, 2) := dk_get daX16_init_c6 78 (r := (2983, .newarray .int, 2)) rfl
theorem dX16_init_2985 : decode cX16_init 2985 = .ok (.dup, 1) := dk_get daX16_init_c6 79 (r := (2985, .dup, 1)) rfl
theorem dX16_init_2986 : decode cX16_init 2986 = .ok (.iconst 0, 1) := dk_get daX16_init_c6 80 (r := (2986, .iconst 0, 1)) rfl
theorem dX16_init_2987 : decode cX16_init 2987 = .ok (.ldc_w 836, 3) := dk_get daX16_init_c6 81 (r := (2987, .ldc_w 836, 3)) rfl
theorem dX16_init_2990 : decode cX16_init 2990 = .ok (.iastore, 1) := dk_get daX16_init_c6 82 (r := (2990, .iastore, 1)) rfl
theorem dX16_init_2991 : decode cX16_init 2991 = .ok (.dup, 1) := dk_get daX16_init_c6 83 (r := (2991, .dup, 1)) rfl
theorem dX16_init_2992 : decode cX16_init 2992 = .ok (.iconst 1, 1) := dk_get daX16_init_c6 84 (r := (2992, .iconst 1, 1)) rfl
theorem dX16_init_2993 : decode cX16_init 2993 = .ok (.ldc_w 837, 3) := dk_get daX16_init_c6 85 (r := (2993, .ldc_w 837, 3)) rfl
theorem dX16_init_2996 : decode cX16_init 2996 = .ok (.iastore, 1) := dk_get daX16_init_c6 86 (r := (2996, .iastore, 1)) rfl
theorem dX16_init_2997 : decode cX16_init 2997 = .ok (.dup, 1) := dk_get daX16_init_c6 87 (r := (2997, .dup, 1)) rfl
theorem dX16_init_2998 : decode cX16_init 2998 = .ok (.iconst 2, 1) := dk_get daX16_init_c6 88 (r := (2998, .iconst 2, 1)) rfl
theorem dX16_init_2999 : decode cX16_init 2999 = .ok (.ldc_w 838, 3) := dk_get daX16_init_c6 89 (r := (2999, .ldc_w 838, 3)) rfl
theorem dX16_init_3002 : decode cX16_init 3002 = .ok (.iastore, 1) := dk_get daX16_init_c6 90 (r := (3002, .iastore, 1)) rfl
theorem dX16_init_3003 : decode cX16_init 3003 = .ok (.dup, 1) := dk_get daX16_init_c6 91 (r := (3003, .dup, 1)) rfl
theorem dX16_init_3004 : decode cX16_init 3004 = .ok (.iconst 3, 1) := dk_get daX16_init_c6 92 (r := (3004, .iconst 3, 1)) rfl
theorem dX16_init_3005 : decode cX16_init 3005 = .ok (.ldc_w 839, 3) := dk_get daX16_init_c6 93 (r := (3005, .ldc_w 839, 3)) rfl
theorem dX16_init_3008 : decode cX16_init 3008 = .ok (.iastore, 1) := dk_get daX16_init_c6 94 (r := (3008, .iastore, 1)) rfl
theorem dX16_init_3009 : decode cX16_init 3009 = .ok (.dup, 1) := dk_get daX16_init_c6 95 (r := (3009, .dup, 1)) rfl
theorem dX16_init_3010 : decode cX16_init 3010 = .ok (.iconst 4, 1) := dk_get daX16_init_c6 96 (r := (3010, .iconst 4, 1)) rfl
theorem dX16_init_3011 : decode cX16_init 3011 = .ok (.ldc_w 840, 3) := dk_get daX16_init_c6 97 (r := (3011, .ldc_w 840, 3)) rfl
theorem dX16_init_3014 : decode cX16_init 3014 = .ok (.iastore, 1) := dk_get daX16_init_c6 98 (r := (3014, .iastore, 1)) rfl
theorem dX16_init_3015 : decode cX16_init 3015 = .ok (.dup, 1) := dk_get daX16_init_c6 99 (r := (3015, .dup, 1)) rfl
theorem dX16_init_3016 : decode cX16_init 3016 = .ok (.iconst 5, 1) := dk_get daX16_init_c6 100 (r := (3016, .iconst 5, 1)) rfl
theorem dX16_init_3017 : decode cX16_init 3017 = .ok (.ldc_w 841, 3) := dk_get daX16_init_c6 101 (r := (3017, .ldc_w 841, 3)) rfl
theorem dX16_init_3020 : decode cX16_init 3020 = .ok (.iastore, 1) := dk_get daX16_init_c6 102 (r := (3020, .iastore, 1)) rfl
theorem dX16_init_3021 : decode cX16_init 3021 = .ok (.dup, 1) := dk_get daX16_init_c6 103 (r := (3021, .dup, 1)) rfl
theorem dX16_init_3022 : decode cX16_init 3022 = .ok (.bipush 6, 2) := dk_get daX16_init_c6 104 (r := (3022, .bipush 6, 2)) rfl
theorem dX16_init_3024 : decode cX16_init 3024 = .ok (.ldc_w 842, 3) := dk_get daX16_init_c6 105 (r := (3024, .ldc_w 842, 3)) rfl
theorem dX16_init_3027 : decode cX16_init 3027 = .ok (.iastore, 1) := dk_get daX16_init_c6 106 (r := (3027, .iastore, 1)) rfl
theorem dX16_init_3028 : decode cX16_init 3028 = .ok (.dup, 1) := dk_get daX16_init_c6 107 (r := (3028, .dup, 1)) rfl
theorem dX16_init_3029 : decode cX16_init 3029 = .ok (.bipush 7, 2) := dk_get daX16_init_c6 108 (r := (3029, .bipush 7, 2)) rfl
theorem dX16_init_3031 : decode cX16_init 3031 = .ok (.ldc_w 843, 3) := dk_get daX16_init_c6 109 (r := (3031, .ldc_w 843, 3)) rfl
theorem dX16_init_3034 : decode cX16_init 3034 = .ok (.iastore, 1) := dk_get daX16_init_c6 110 (r := (3034, .iastore, 1)) rfl
theorem dX16_init_3035 : decode cX16_init 3035 = .ok (.astore 4, 2) := dk_get daX16_init_c6 111 (r := (3035, .astore 4, 2)) rfl
theorem dX16_init_3037 : decode cX16_init 3037 = .ok (.bipush 8, 2) := dk_get daX16_init_c6 112 (r := (3037, .bipush 8, 2)) rfl
theorem dX16_init_3039 : decode cX16_init 3039 = .ok (.newarray .int, 2) := dk_get daX16_init_c6 113 (r := (3039, .newarray .int, 2)) rfl
theorem dX16_init_3041 : decode cX16_init 3041 = .ok (.dup, 1) := dk_get daX16_init_c6 114 (r := (3041, .dup, 1)) rfl
theorem dX16_init_3042 : decode cX16_init 3042 = .ok (.iconst 0, 1) := dk_get daX16_init_c6 115 (r := (3042, .iconst 0, 1)) rfl
theorem dX16_init_3043 : decode cX16_init 3043 = .ok (.ldc_w 844, 3) := dk_get daX16_init_c6 116 (r := (3043, .ldc_w 844, 3)) rfl
theorem dX16_init_3046 : decode cX16_init 3046 = .ok (.iastore, 1) := dk_get daX16_init_c6 117 (r := (3046, .iastore, 1)) rfl
theorem dX16_init_3047 : decode cX16_init 3047 = .ok (.dup, 1) := dk_get daX16_init_c6 118 (r := (3047, .dup, 1)) rfl
theorem dX16_init_3048 : decode cX16_init 3048 = .ok (.iconst 1, 1) := dk_get daX16_init_c6 119 (r := (3048, .iconst 1, 1)) rfl
theorem dX16_init_3049 : decode cX16_init 3049 = .ok (.ldc_w 845, 3) := dk_get daX16_init_c6 120 (r := (3049, .ldc_w 845, 3)) rfl
theorem dX16_init_3052 : decode cX16_init 3052 = .ok (.iastore, 1) := dk_get daX16_init_c6 121 (r := (3052, .iastore, 1)) rfl
theorem dX16_init_3053 : decode cX16_init 3053 = .ok (.dup, 1) := dk_get daX16_init_c6 122 (r := (3053, .dup, 1)) rfl
theorem dX16_init_3054 : decode cX16_init 3054 = .ok (.iconst 2, 1) := dk_get daX16_init_c6 123 (r := (3054, .iconst 2, 1)) rfl
theorem dX16_init_3055 : decode cX16_init 3055 = .ok (.ldc_w 846, 3) := dk_get daX16_init_c6 124 (r := (3055, .ldc_w 846, 3)) rfl
theorem dX16_init_3058 : decode cX16_init 3058 = .ok (.iastore, 1) := dk_get daX16_init_c6 125 (r := (3058, .iastore, 1)) rfl
theorem dX16_init_3059 : decode cX16_init 3059 = .ok (.dup, 1) := dk_get daX16_init_c6 126 (r := (3059, .dup, 1)) rfl
theorem dX16_init_3060 : decode cX16_init 3060 = .ok (.iconst 3, 1) := dk_get daX16_init_c6 127 (r := (3060, .iconst 3, 1)) rfl
theorem dX16_init_3061 : decode cX16_init 3061 = .ok (.ldc_w 847, 3) := dk_get daX16_init_c6 128 (r := (3061, .ldc_w 847, 3)) rfl
theorem dX16_init_3064 : decode cX16_init 3064 = .ok (.iastore, 1) := dk_get daX16_init_c6 129 (r := (3064, .iastore, 1)) rfl
theorem dX16_init_3065 : decode cX16_init 3065 = .ok (.dup, 1) := dk_get daX16_init_c6 130 (r := (3065, .dup, 1)) rfl
theorem dX16_init_3066 : decode cX16_init 3066 = .ok (.iconst 4, 1) := dk_get daX16_init_c6 131 (r := (3066, .iconst 4, 1)) rfl
theorem dX16_init_3067 : decode cX16_init 3067 = .ok (.ldc_w 848, 3) := dk_get daX16_init_c6 132 (r := (3067, .ldc_w 848, 3)) rfl
theorem dX16_init_3070 : decode cX16_init 3070 = .ok (.iastore, 1) := dk_get daX16_init_c6 133 (r := (3070, .iastore, 1)) rfl
theorem dX16_init_3071 : decode cX16_init 3071 = .ok (.dup, 1) := dk_get daX16_init_c6 134 (r := (3071, .dup, 1)) rfl
theorem dX16_init_3072 : decode cX16_init 3072 = .ok (.iconst 5, 1) := dk_get daX16_init_c6 135 (r := (3072, .iconst 5, 1)) rfl
theorem dX16_init_3073 : decode cX16_init 3073 = .ok (.ldc_w 849, 3) := dk_get daX16_init_c6 136 (r := (3073, .ldc_w 849, 3)) rfl
theorem dX16_init_3076 : decode cX16_init 3076 = .ok (.iastore, 1) := dk_get daX16_init_c6 137 (r := (3076, .iastore, 1)) rfl
theorem dX16_init_3077 : decode cX16_init 3077 = .ok (.dup, 1) := dk_get daX16_init_c6 138 (r := (3077, .dup, 1)) rfl
theorem dX16_init_3078 : decode cX16_init 3078 = .ok (.bipush 6, 2) := dk_get daX16_init_c6 139 (r := (3078, .bipush 6, 2)) rfl
theorem dX16_init_3080 : decode cX16_init 3080 = .ok (.ldc_w 850, 3) := dk_get daX16_init_c6 140 (r := (3080, .ldc_w 850, 3)) rfl
theorem dX16_init_3083 : decode cX16_init 3083 = .ok (.iastore, 1) := dk_get daX16_init_c6 141 (r := (3083, .iastore, 1)) rfl
theorem dX16_init_3084 : decode cX16_init 3084 = .ok (.dup, 1) := dk_get daX16_init_c6 142 (r := (3084, .dup, 1)) rfl
theorem dX16_init_3085 : decode cX16_init 3085 = .ok (.bipush 7, 2) := dk_get daX16_init_c6 143 (r := (3085, .bipush 7, 2)) rfl
theorem dX16_init_3087 : decode cX16_init 3087 = .ok (.ldc_w 851, 3) := dk_get daX16_init_c6 144 (r := (3087, .ldc_w 851, 3)) rfl
theorem dX16_init_3090 : decode cX16_init 3090 = .ok (.iastore, 1) := dk_get daX16_init_c6 145 (r := (3090, .iastore, 1)) rfl
theorem dX16_init_3091 : decode cX16_init 3091 = .ok (.astore 5, 2) := dk_get daX16_init_c6 146 (r := (3091, .astore 5, 2)) rfl
theorem dX16_init_3093 : decode cX16_init 3093 = .ok (.aload_n 0, 1) := dk_get daX16_init_c6 147 (r := (3093, .aload_n 0, 1)) rfl
theorem dX16_init_3094 : decode cX16_init 3094 = .ok (.getfield 101, 3) := dk_get daX16_init_c6 148 (r := (3094, .getfield 101, 3)) rfl
theorem dX16_init_3097 : decode cX16_init 3097 = .ok (.aload 4, 2) := dk_get daX16_init_c6 149 (r := (3097, .aload 4, 2)) rfl
theorem dX16_init_3099 : decode cX16_init 3099 = .ok (.aload_n 0, 1) := dk_get daX16_init_c6 150 (r := (3099, .aload_n 0, 1)) rfl
theorem dX16_init_3100 : decode cX16_init 3100 = .ok (.getfield 225, 3) := dk_get daX16_init_c6 151 (r := (3100, .getfield 225, 3)) rfl
theorem dX16_init_3103 : decode cX16_init 3103 = .ok (.getfield 115, 3) := dk_get daX16_init_c6 152 (r := (3103, .getfield 115, 3)) rfl
theorem dX16_init_3106 : decode cX16_init 3106 = .ok (.invokevirtual 173, 3) := dk_get daX16_init_c6 153 (r := (3106, .invokevirtual 173, 3)) rfl
theorem dX16_init_3109 : decode cX16_init 3109 = .ok (.aload_n 0, 1) := dk_get daX16_init_c6 154 (r := (3109, .aload_n 0, 1)) rfl
theorem dX16_init_3110 : decode cX16_init 3110 = .ok (.getfield 101, 3) := dk_get daX16_init_c6 155 (r := (3110, .getfield 101, 3)) rfl
theorem dX16_init_3113 : decode cX16_init 3113 = .ok (.aload 5, 2) := dk_get daX16_init_c6 156 (r := (3113, .aload 5, 2)) rfl
theorem dX16_init_3115 : decode cX16_init 3115 = .ok (.aload_n 0, 1) := dk_get daX16_init_c6 157 (r := (3115, .aload_n 0, 1)) rfl
theorem dX16_init_3116 : decode cX16_init 3116 = .ok (.getfield 225, 3) := dk_get daX16_init_c6 158 (r := (3116, .getfield 225, 3)) rfl
theorem dX16_init_3119 : decode cX16_init 3119 = .ok (.getfield 105, 3) := dk_get daX16_init_c6 159 (r := (3119, .getfield 105, 3)) rfl
theorem dX16_init_3122 : decode cX16_init 3122 = .ok (.invokevirtual 173, 3) := dk_get daX16_init_c6 160 (r := (3122, .invokevirtual 173, 3)) rfl
theorem dX16_init_3125 : decode cX16_init 3125 = .ok (.aload_n 0, 1) := dk_get daX16_init_c6 161 (r := (3125, .aload_n 0, 1)) rfl
theorem dX16_init_3126 : decode cX16_init 3126 = .ok (.getfield 101, 3) := dk_get daX16_init_c6 162 (r := (3126, .getfield 101, 3)) rfl
theorem dX16_init_3129 : decode cX16_init 3129 = .ok (.getfield 179, 3) := dk_get daX16_init_c6 163 (r := (3129, .getfield 179, 3)) rfl
theorem dX16_init_3132 : decode cX16_init 3132 = .ok (.aload_n 0, 1) := dk_get daX16_init_c6 164 (r := (3132, .aload_n 0, 1)) rfl
theorem dX16_init_3133 : decode cX16_init 3133 = .ok (.getfield 225, 3) := dk_get daX16_init_c6 165 (r := (3133, .getfield 225, 3)) rfl
theorem dX16_init_3136 : decode cX16_init 3136 = .ok (.getfield 90, 3) := dk_get daX16_init_c6 166 (r := (3136, .getfield 90, 3)) rfl
theorem dX16_init_3139 : decode cX16_init 3139 = .ok (.invokestatic 182, 3) := dk_get daX16_init_c6 167 (r := (3139, .invokestatic 182, 3)) rfl
theorem dX16_init_3142 : decode cX16_init 3142 = .ok (.ldc_w 852, 3) := dk_get daX16_init_c6 168 (r := (3142, .ldc_w 852, 3)) rfl
theorem dX16_init_3145 : decode cX16_init 3145 = .ok (.aload_n 0, 1) := dk_get daX16_init_c6 169 (r := (3145, .aload_n 0, 1)) rfl
theorem dX16_init_3146 : decode cX16_init 3146 = .ok (.getfield 387, 3) := dk_get daX16_init_c6 170 (r := (3146, .getfield 387, 3)) rfl
theorem dX16_init_3149 : decode cX16_init 3149 = .ok (.invokestatic 376, 3) := dk_get daX16_init_c6 171 (r := (3149, .invokestatic 376, 3)) rfl
theorem dX16_init_3152 : decode cX16_init 3152 = .ok (.pop, 1) := dk_get daX16_init_c6 172 (r := (3152, .pop, 1)) rfl
theorem dX16_init_3153 : decode cX16_init 3153 = .ok (.aload_n 0, 1) := dk_get daX16_init_c6 173 (r := (3153, .aload_n 0, 1)) rfl
theorem dX16_init_3154 : decode cX16_init 3154 = .ok (.ldc2_w 853, 3) := dk_get daX16_init_c6 174 (r := (3154, .ldc2_w 853, 3)) rfl
theorem dX16_init_3157 : decode cX16_init 3157 = .ok (.putfield 855, 3) := dk_get daX16_init_c6 175 (r := (3157, .putfield 855, 3)) rfl
theorem dX16_init_3160 : decode cX16_init 3160 = .ok (.aload_n 0, 1) := dk_get daX16_init_c6 176 (r := (3160, .aload_n 0, 1)) rfl
theorem dX16_init_3161 : decode cX16_init 3161 = .ok (.iconst (-1), 1) := dk_get daX16_init_c6 177 (r := (3161, .iconst (-1), 1)) rfl
theorem dX16_init_3162 : decode cX16_init 3162 = .ok (.putfield 859, 3) := dk_get daX16_init_c6 178 (r := (3162, .putfield 859, 3)) rfl
theorem dX16_init_3165 : decode cX16_init 3165 = .ok (.aload_n 0, 1) := dk_get daX16_init_c6 179 (r := (3165, .aload_n 0, 1)) rfl
theorem dX16_init_3166 : decode cX16_init 3166 = .ok (.getfield 801, 3) := dk_get daX16_init_c6 180 (r := (3166, .getfield 801, 3)) rfl
theorem dX16_init_3169 : decode cX16_init 3169 = .ok (.iconst 0, 1) := dk_get daX16_init_c6 181 (r := (3169, .iconst 0, 1)) rfl
theorem dX16_init_3170 : decode cX16_init 3170 = .ok (.iconst 0, 1) := dk_get daX16_init_c6 182 (r := (3170, .iconst 0, 1)) rfl
theorem dX16_init_3171 : decode cX16_init 3171 = .ok (.bastore, 1) := dk_get daX16_init_c6 183 (r := (3171, .bastore, 1)) rfl
theorem dX16_init_3172 : decode cX16_init 3172 = .ok (.aload_n 0, 1) := dk_get daX16_init_c6 184 (r := (3172, .aload_n 0, 1)) rfl
theorem dX16_init_3173 : decode cX16_init 3173 = .ok (.getfield 801, 3) := dk_get daX16_init_c6 185 (r := (3173, .getfield 801, 3)) rfl
theorem dX16_init_3176 : decode cX16_init 3176 = .ok (.iconst 1, 1) := dk_get daX16_init_c6 186 (r := (3176, .iconst 1, 1)) rfl
theorem dX16_init_3177 : decode cX16_init 3177 = .ok (.iconst 0, 1) := dk_get daX16_init_c6 187 (r := (3177, .iconst 0, 1)) rfl
theorem dX16_init_3178 : decode cX16_init 3178 = .ok (.bastore, 1) := dk_get daX16_init_c6 188 (r := (3178, .bastore, 1)) rfl
theorem dX16_init_3179 : decode cX16_init 3179 = .ok (.aload_n 0, 1) := dk_get daX16_init_c6 189 (r := (3179, .aload_n 0, 1)) rfl
theorem dX16_init_3180 : decode cX16_init 3180 = .ok (.iconst 2, 1) := dk_get daX16_init_c6 190 (r := (3180, .iconst 2, 1)) rfl
theorem dX16_init_3181 : decode cX16_init 3181 = .ok (.putfield 862, 3) := dk_get daX16_init_c6 191 (r := (3181, .putfield 862, 3)) rfl
theorem dX16_init_3184 : decode cX16_init 3184 = .ok (.aload_n 0, 1) := dk_get daX16_init_c6 192 (r := (3184, .aload_n 0, 1)) rfl
theorem dX16_init_3185 : decode cX16_init 3185 = .ok (.iconst 1, 1) := dk_get daX16_init_c6 193 (r := (3185, .iconst 1, 1)) rfl
theorem dX16_init_3186 : decode cX16_init 3186 = .ok (.putfield 865, 3) := dk_get daX16_init_c6 194 (r := (3186, .putfield 865, 3)) rfl
theorem dX16_init_3189 : decode cX16_init 3189 = .ok (.aload_n 0, 1) := dk_get daX16_init_c6 195 (r := (3189, .aload_n 0, 1)) rfl
theorem dX16_init_3190 : decode cX16_init 3190 = .ok (.getfield 729, 3) := dk_get daX16_init_c6 196 (r := (3190, .getfield 729, 3)) rfl
theorem dX16_init_3193 : decode cX16_init 3193 = .ok (.iconst 0, 1) := dk_get daX16_init_c6 197 (r := (3193, .iconst 0, 1)) rfl
theorem dX16_init_3194 : decode cX16_init 3194 = .ok (.lconst 1, 1) := dk_get daX16_init_c6 198 (r := (3194, .lconst 1, 1)) rfl
theorem dX16_init_3195 : decode cX16_init 3195 = .ok (.lastore, 1) := dk_get daX16_init_c6 199 (r := (3195, .lastore, 1)) rfl
theorem dX16_init_3196 : decode cX16_init 3196 = .ok (.aload_n 0, 1) := dk_get daX16_init_c6 200 (r := (3196, .aload_n 0, 1)) rfl
theorem dX16_init_3197 : decode cX16_init 3197 = .ok (.iconst 0, 1) := dk_get daX16_init_c6 201 (r := (3197, .iconst 0, 1)) rfl
theorem dX16_init_3198 : decode cX16_init 3198 = .ok (.ldc2_w 380, 3) := dk_get daX16_init_c6 202 (r := (3198, .ldc2_w 380, 3)) rfl
theorem dX16_init_3201 : decode cX16_init 3201 = .ok (.invokevirtual 868, 3) := dk_get daX16_init_c6 203 (r := (3201, .invokevirtual 868, 3)) rfl
theorem dX16_init_3204 : decode cX16_init 3204 = .ok (.aload_n 0, 1) := dk_get daX16_init_c6 204 (r := (3204, .aload_n 0, 1)) rfl
theorem dX16_init_3205 : decode cX16_init 3205 = .ok (.getfield 801, 3) := dk_get daX16_init_c6 205 (r := (3205, .getfield 801, 3)) rfl
theorem dX16_init_3208 : decode cX16_init 3208 = .ok (.iconst 0, 1) := dk_get daX16_init_c6 206 (r := (3208, .iconst 0, 1)) rfl
theorem dX16_init_3209 : decode cX16_init 3209 = .ok (.bipush 81, 2) := dk_get daX16_init_c6 207 (r := (3209, .bipush 81, 2)) rfl
theorem dX16_init_3211 : decode cX16_init 3211 = .ok (.bastore, 1) := dk_get daX16_init_c6 208 (r := (3211, .bastore, 1)) rfl
theorem dX16_init_3212 : decode cX16_init 3212 = .ok (.aload_n 0, 1) := dk_get daX16_init_c6 209 (r := (3212, .aload_n 0, 1)) rfl
theorem dX16_init_3213 : decode cX16_init 3213 = .ok (.iconst 1, 1) := dk_get daX16_init_c6 210 (r := (3213, .iconst 1, 1)) rfl
theorem dX16_init_3214 : decode cX16_init 3214 = .ok (.putfield 862, 3) := dk_get daX16_init_c6 211 (r := (3214, .putfield 862, 3)) rfl
theorem dX16_init_3217 : decode cX16_init 3217 = .ok (.aload_n 0, 1) := dk_get daX16_init_c6 212 (r := (3217, .aload_n 0, 1)) rfl
theorem dX16_init_3218 : decode cX16_init 3218 = .ok (.ldc2_w 485, 3) := dk_get daX16_init_c6 213 (r := (3218, .ldc2_w 485, 3)) rfl
theorem dX16_init_3221 : decode cX16_init 3221 = .ok (.invokevirtual 872, 3) := dk_get daX16_init_c6 214 (r := (3221, .invokevirtual 872, 3)) rfl
theorem dX16_init_3224 : decode cX16_init 3224 = .ok (.aload_n 0, 1) := dk_get daX16_init_c6 215 (r := (3224, .aload_n 0, 1)) rfl
theorem dX16_init_3225 : decode cX16_init 3225 = .ok (.iconst 0, 1) := dk_get daX16_init_c6 216 (r := (3225, .iconst 0, 1)) rfl
theorem dX16_init_3226 : decode cX16_init 3226 = .ok (.invokevirtual 875, 3) := dk_get daX16_init_c6 217 (r := (3226, .invokevirtual 875, 3)) rfl
theorem dX16_init_3229 : decode cX16_init 3229 = .ok (.aload_n 0, 1) := dk_get daX16_init_c6 218 (r := (3229, .aload_n 0, 1)) rfl
theorem dX16_init_3230 : decode cX16_init 3230 = .ok (.aload_n 0, 1) := dk_get daX16_init_c6 219 (r := (3230, .aload_n 0, 1)) rfl
theorem dX16_init_3231 : decode cX16_init 3231 = .ok (.getfield 720, 3) := dk_get daX16_init_c6 220 (r := (3231, .getfield 720, 3)) rfl
theorem dX16_init_3234 : decode cX16_init 3234 = .ok (.aload_n 0, 1) := dk_get daX16_init_c6 221 (r := (3234, .aload_n 0, 1)) rfl
theorem dX16_init_3235 : decode cX16_init 3235 = .ok (.getfield 723, 3) := dk_get daX16_init_c6 222 (r := (3235, .getfield 723, 3)) rfl
theorem dX16_init_3238 : decode cX16_init 3238 = .ok (.iconst (-1), 1) := dk_get daX16_init_c6 223 (r := (3238, .iconst (-1), 1)) rfl
theorem dX16_init_3239 : decode cX16_init 3239 = .ok (.invokevirtual 878, 3) := dk_get daX16_init_c6 224 (r := (3239, .invokevirtual 878, 3)) rfl
theorem dX16_init_3242 : decode cX16_init 3242 = .ok (.aload_n 0, 1) := dk_get daX16_init_c6 225 (r := (3242, .aload_n 0, 1)) rfl
theorem dX16_init_3243 : decode cX16_init 3243 = .ok (.iconst 0, 1) := dk_get daX16_init_c6 226 (r := (3243, .iconst 0, 1)) rfl
theorem dX16_init_3244 : decode cX16_init 3244 = .ok (.putfield 881, 3) := dk_get daX16_init_c6 227 (r := (3244, .putfield 881, 3)) rfl
theorem dX16_init_3247 : decode cX16_init 3247 = .ok (.aload_n 0, 1) := dk_get daX16_init_c6 228 (r := (3247, .aload_n 0, 1)) rfl
theorem dX16_init_3248 : decode cX16_init 3248 = .ok (.iconst 0, 1) := dk_get daX16_init_c6 229 (r := (3248, .iconst 0, 1)) rfl
theorem dX16_init_3249 : decode cX16_init 3249 = .ok (.putfield 464, 3) := dk_get daX16_init_c6 230 (r := (3249, .putfield 464, 3)) rfl
theorem dX16_init_3252 : decode cX16_init 3252 = .ok (.aload_n 0, 1) := dk_get daX16_init_c6 231 (r := (3252, .aload_n 0, 1)) rfl
theorem dX16_init_3253 : decode cX16_init 3253 = .ok (.iconst 0, 1) := dk_get daX16_init_c6 232 (r := (3253, .iconst 0, 1)) rfl
theorem dX16_init_3254 : decode cX16_init 3254 = .ok (.invokevirtual 490, 3) := dk_get daX16_init_c6 233 (r := (3254, .invokevirtual 490, 3)) rfl
theorem dX16_init_3257 : decode cX16_init 3257 = .ok (.pop, 1) := dk_get daX16_init_c6 234 (r := (3257, .pop, 1)) rfl
theorem dX16_init_3258 : decode cX16_init 3258 = .ok (.aload_n 0, 1) := dk_get daX16_init_c6 235 (r := (3258, .aload_n 0, 1)) rfl
theorem dX16_init_3259 : decode cX16_init 3259 = .ok (.invokevirtual 884, 3) := dk_get daX16_init_c6 236 (r := (3259, .invokevirtual 884, 3)) rfl
theorem dX16_init_3262 : decode cX16_init 3262 = .ok (.aload_n 0, 1) := dk_get daX16_init_c6 237 (r := (3262, .aload_n 0, 1)) rfl
theorem dX16_init_3263 : decode cX16_init 3263 = .ok (.iconst 0, 1) := dk_get daX16_init_c6 238 (r := (3263, .iconst 0, 1)) rfl
theorem dX16_init_3264 : decode cX16_init 3264 = .ok (.putfield 865, 3) := dk_get daX16_init_c6 239 (r := (3264, .putfield 865, 3)) rfl
theorem dX16_init_3267 : decode cX16_init 3267 = .ok (.aload_n 0, 1) := dk_get daX16_init_c6 240 (r := (3267, .aload_n 0, 1)) rfl
theorem dX16_init_3268 : decode cX16_init 3268 = .ok (.iconst 0, 1) := dk_get daX16_init_c6 241 (r := (3268, .iconst 0, 1)) rfl
theorem dX16_init_3269 : decode cX16_init 3269 = .ok (.putfield 859, 3) := dk_get daX16_init_c6 242 (r := (3269, .putfield 859, 3)) rfl
theorem dX16_init_3272 : decode cX16_init 3272 = .ok (.aload_n 0, 1) := dk_get daX16_init_c6 243 (r := (3272, .aload_n 0, 1)) rfl
theorem dX16_init_3273 : decode cX16_init 3273 = .ok (.ldc2_w 886, 3) := dk_get daX16_init_c6 244 (r := (3273, .ldc2_w 886, 3)) rfl
theorem dX16_init_3276 : decode cX16_init 3276 = .ok (.putfield 855, 3) := dk_get daX16_init_c6 245 (r := (3276, .putfield 855, 3)) rfl
theorem dX16_init_3279 : decode cX16_init 3279 = .ok (.return_, 1) := dk_get daX16_init_c6 246 (r := (3279, .return_, 1)) rfl
set_option maxRecDepth 100000 in
theorem kx_1776 : (Jvm.Cond.code ({ cls := "CoinJudgeModel", name := "<init>", desc := "()V" } : Jvm.MethodName) prog_14_method_95_code (6 : Nat) (Option.none : Option Jvm.ClassFile.FieldType)) ∈ lw_tbl := List.mem_append_right _ (List.mem_of_getElem? (i := 1776) (by rfl))
set_option maxRecDepth 100000 in
theorem kx_1777 : (Jvm.Cond.methodLink "CoinJudgeModel" (773 : Nat) ({ cls := "java/lang/Object", name := "<init>", desc := "()V" } : Jvm.MethodName)) ∈ lw_tbl := List.mem_append_right _ (List.mem_of_getElem? (i := 1777) (by rfl))
set_option maxRecDepth 100000 in
theorem kx_1778 : (Jvm.Cond.constant "CoinJudgeModel" (776 : Nat) (1518500249 : Int32)) ∈ lw_tbl := List.mem_append_right _ (List.mem_of_getElem? (i := 1778) (by rfl))
set_option maxRecDepth 100000 in
theorem kx_1779 : (Jvm.Cond.constant "CoinJudgeModel" (777 : Nat) (1859775393 : Int32)) ∈ lw_tbl := List.mem_append_right _ (List.mem_of_getElem? (i := 1779) (by rfl))
set_option maxRecDepth 100000 in
theorem kx_1780 : (Jvm.Cond.constant "CoinJudgeModel" (778 : Nat) (-1894007588 : Int32)) ∈ lw_tbl := List.mem_append_right _ (List.mem_of_getElem? (i := 1780) (by rfl))
set_option maxRecDepth 100000 in
theorem kx_1781 : (Jvm.Cond.constant "CoinJudgeModel" (779 : Nat) (-1454113458 : Int32)) ∈ lw_tbl := List.mem_append_right _ (List.mem_of_getElem? (i := 1781) (by rfl))
set_option maxRecDepth 100000 in
theorem kx_1782 : (Jvm.Cond.constant "CoinJudgeModel" (780 : Nat) (1352829926 : Int32)) ∈ lw_tbl := List.mem_append_right _ (List.mem_of_getElem? (i := 1782) (by rfl))
set_option maxRecDepth 100000 in
theorem kx_1783 : (Jvm.Cond.constant "CoinJudgeModel" (781 : Nat) (1548603684 : Int32)) ∈ lw_tbl := List.mem_append_right _ (List.mem_of_getElem? (i := 1783) (by rfl))
set_option maxRecDepth 100000 in
theorem kx_1784 : (Jvm.Cond.constant "CoinJudgeModel" (782 : Nat) (1836072691 : Int32)) ∈ lw_tbl := List.mem_append_right _ (List.mem_of_getElem? (i := 1784) (by rfl))
set_option maxRecDepth 100000 in
theorem kx_1785 : (Jvm.Cond.constant "CoinJudgeModel" (783 : Nat) (2053994217 : Int32)) ∈ lw_tbl := List.mem_append_right _ (List.mem_of_getElem? (i := 1785) (by rfl))
set_option maxRecDepth 100000 in
theorem kx_1786 : (Jvm.Cond.classLink "CoinJudgeModel" (91 : Nat) "CoinJudgeModel$Point") ∈ lw_tbl := List.mem_append_right _ (List.mem_of_getElem? (i := 1786) (by rfl))
set_option maxRecDepth 100000 in
theorem kx_1787 : (Jvm.Cond.instantiable "CoinJudgeModel$Point" (3 : Nat)) ∈ lw_tbl := List.mem_append_right _ (List.mem_of_getElem? (i := 1787) (by rfl))
set_option maxRecDepth 100000 in
theorem kx_1788 : (Jvm.Cond.methodLinkNest "CoinJudgeModel" (784 : Nat) ({ cls := "CoinJudgeModel$Point", name := "<init>", desc := "()V" } : Jvm.MethodName) "CoinJudgeModel") ∈ lw_tbl := List.mem_append_right _ (List.mem_of_getElem? (i := 1788) (by rfl))
set_option maxRecDepth 100000 in
theorem kx_1789 : (Jvm.Cond.instanceMethod ({ cls := "CoinJudgeModel$Point", name := "<init>", desc := "()V" } : Jvm.MethodName)) ∈ lw_tbl := List.mem_append_right _ (List.mem_of_getElem? (i := 1789) (by rfl))
set_option maxRecDepth 100000 in
theorem kx_1807 : (Jvm.Cond.classLink "CoinJudgeModel" (276 : Nat) "CoinJudgeModel$Parsed") ∈ lw_tbl := List.mem_append_right _ (List.mem_of_getElem? (i := 1807) (by rfl))
set_option maxRecDepth 100000 in
theorem kx_1809 : (Jvm.Cond.methodLinkNest "CoinJudgeModel" (788 : Nat) ({ cls := "CoinJudgeModel$Parsed", name := "<init>", desc := "()V" } : Jvm.MethodName) "CoinJudgeModel") ∈ lw_tbl := List.mem_append_right _ (List.mem_of_getElem? (i := 1809) (by rfl))
set_option maxRecDepth 100000 in
theorem kx_1848 : (Jvm.Cond.classLink "CoinJudgeModel" (798 : Nat) "[B") ∈ lw_tbl := List.mem_append_right _ (List.mem_of_getElem? (i := 1848) (by rfl))
set_option maxRecDepth 100000 in
theorem kx_1850 : (Jvm.Cond.constant "CoinJudgeModel" (800 : Nat) (131072 : Int32)) ∈ lw_tbl := List.mem_append_right _ (List.mem_of_getElem? (i := 1850) (by rfl))
set_option maxRecDepth 100000 in
theorem kx_1851 : (Jvm.Cond.constant "CoinJudgeModel" (822 : Nat) (-801750719 : Int32)) ∈ lw_tbl := List.mem_append_right _ (List.mem_of_getElem? (i := 1851) (by rfl))
set_option maxRecDepth 100000 in
theorem kx_1852 : (Jvm.Cond.constant "CoinJudgeModel" (823 : Nat) (-1076732276 : Int32)) ∈ lw_tbl := List.mem_append_right _ (List.mem_of_getElem? (i := 1852) (by rfl))
set_option maxRecDepth 100000 in
theorem kx_1853 : (Jvm.Cond.constant "CoinJudgeModel" (824 : Nat) (-1354194885 : Int32)) ∈ lw_tbl := List.mem_append_right _ (List.mem_of_getElem? (i := 1853) (by rfl))
set_option maxRecDepth 100000 in
theorem kx_1854 : (Jvm.Cond.constant "CoinJudgeModel" (825 : Nat) (-1162945306 : Int32)) ∈ lw_tbl := List.mem_append_right _ (List.mem_of_getElem? (i := 1854) (by rfl))
set_option maxRecDepth 100000 in
theorem kx_1855 : (Jvm.Cond.classLink "CoinJudgeModel" (96 : Nat) "CoinJudgeModel$Ring") ∈ lw_tbl := List.mem_append_right _ (List.mem_of_getElem? (i := 1855) (by rfl))
set_option maxRecDepth 100000 in
theorem kx_1856 : (Jvm.Cond.instantiable "CoinJudgeModel$Ring" (8 : Nat)) ∈ lw_tbl := List.mem_append_right _ (List.mem_of_getElem? (i := 1856) (by rfl))
set_option maxRecDepth 100000 in
theorem kx_1857 : (Jvm.Cond.methodLink "CoinJudgeModel" (826 : Nat) ({ cls := "CoinJudgeModel$Ring", name := "<init>", desc := "([I)V" } : Jvm.MethodName)) ∈ lw_tbl := List.mem_append_right _ (List.mem_of_getElem? (i := 1857) (by rfl))
set_option maxRecDepth 100000 in
theorem kx_1858 : (Jvm.Cond.instanceMethod ({ cls := "CoinJudgeModel$Ring", name := "<init>", desc := "([I)V" } : Jvm.MethodName)) ∈ lw_tbl := List.mem_append_right _ (List.mem_of_getElem? (i := 1858) (by rfl))
set_option maxRecDepth 100000 in
theorem kx_1905 : (Jvm.Cond.methodLink "CoinJudgeModel" (829 : Nat) ({ cls := "CoinJudgeModel", name := "isPrime", desc := "(I)Z" } : Jvm.MethodName)) ∈ lw_tbl := List.mem_append_right _ (List.mem_of_getElem? (i := 1905) (by rfl))
set_option maxRecDepth 100000 in
theorem kx_1906 : (Jvm.Cond.static ({ cls := "CoinJudgeModel", name := "isPrime", desc := "(I)Z" } : Jvm.MethodName)) ∈ lw_tbl := List.mem_append_right _ (List.mem_of_getElem? (i := 1906) (by rfl))
set_option maxRecDepth 100000 in
theorem kx_1908 : (Jvm.Cond.methodLink "CoinJudgeModel" (832 : Nat) ({ cls := "CoinJudgeModel", name := "fraction", desc := "(IZ)I" } : Jvm.MethodName)) ∈ lw_tbl := List.mem_append_right _ (List.mem_of_getElem? (i := 1908) (by rfl))
set_option maxRecDepth 100000 in
theorem kx_1910 : (Jvm.Cond.instanceMethod ({ cls := "CoinJudgeModel", name := "fraction", desc := "(IZ)I" } : Jvm.MethodName)) ∈ lw_tbl := List.mem_append_right _ (List.mem_of_getElem? (i := 1910) (by rfl))
set_option maxRecDepth 100000 in
theorem kx_1929 : (Jvm.Cond.constant "CoinJudgeModel" (836 : Nat) (385357720 : Int32)) ∈ lw_tbl := List.mem_append_right _ (List.mem_of_getElem? (i := 1929) (by rfl))
set_option maxRecDepth 100000 in
theorem kx_1930 : (Jvm.Cond.constant "CoinJudgeModel" (837 : Nat) (1509065051 : Int32)) ∈ lw_tbl := List.mem_append_right _ (List.mem_of_getElem? (i := 1930) (by rfl))
set_option maxRecDepth 100000 in
theorem kx_1931 : (Jvm.Cond.constant "CoinJudgeModel" (838 : Nat) (768485593 : Int32)) ∈ lw_tbl := List.mem_append_right _ (List.mem_of_getElem? (i := 1931) (by rfl))
set_option maxRecDepth 100000 in
theorem kx_1932 : (Jvm.Cond.constant "CoinJudgeModel" (839 : Nat) (43777243 : Int32)) ∈ lw_tbl := List.mem_append_right _ (List.mem_of_getElem? (i := 1932) (by rfl))
set_option maxRecDepth 100000 in
theorem kx_1933 : (Jvm.Cond.constant "CoinJudgeModel" (840 : Nat) (-830010617 : Int32)) ∈ lw_tbl := List.mem_append_right _ (List.mem_of_getElem? (i := 1933) (by rfl))
set_option maxRecDepth 100000 in
theorem kx_1934 : (Jvm.Cond.constant "CoinJudgeModel" (841 : Nat) (1436574357 : Int32)) ∈ lw_tbl := List.mem_append_right _ (List.mem_of_getElem? (i := 1934) (by rfl))
set_option maxRecDepth 100000 in
theorem kx_1935 : (Jvm.Cond.constant "CoinJudgeModel" (842 : Nat) (-102974548 : Int32)) ∈ lw_tbl := List.mem_append_right _ (List.mem_of_getElem? (i := 1935) (by rfl))
set_option maxRecDepth 100000 in
theorem kx_1936 : (Jvm.Cond.constant "CoinJudgeModel" (843 : Nat) (2042521214 : Int32)) ∈ lw_tbl := List.mem_append_right _ (List.mem_of_getElem? (i := 1936) (by rfl))
set_option maxRecDepth 100000 in
theorem kx_1937 : (Jvm.Cond.constant "CoinJudgeModel" (844 : Nat) (-82783048 : Int32)) ∈ lw_tbl := List.mem_append_right _ (List.mem_of_getElem? (i := 1937) (by rfl))
set_option maxRecDepth 100000 in
theorem kx_1938 : (Jvm.Cond.constant "CoinJudgeModel" (845 : Nat) (-1673015153 : Int32)) ∈ lw_tbl := List.mem_append_right _ (List.mem_of_getElem? (i := 1938) (by rfl))
set_option maxRecDepth 100000 in
theorem kx_1939 : (Jvm.Cond.constant "CoinJudgeModel" (846 : Nat) (-1501211623 : Int32)) ∈ lw_tbl := List.mem_append_right _ (List.mem_of_getElem? (i := 1939) (by rfl))
set_option maxRecDepth 100000 in
theorem kx_1940 : (Jvm.Cond.constant "CoinJudgeModel" (847 : Nat) (-48778168 : Int32)) ∈ lw_tbl := List.mem_append_right _ (List.mem_of_getElem? (i := 1940) (by rfl))
set_option maxRecDepth 100000 in
theorem kx_1941 : (Jvm.Cond.constant "CoinJudgeModel" (848 : Nat) (235997352 : Int32)) ∈ lw_tbl := List.mem_append_right _ (List.mem_of_getElem? (i := 1941) (by rfl))
set_option maxRecDepth 100000 in
theorem kx_1942 : (Jvm.Cond.constant "CoinJudgeModel" (849 : Nat) (1571093500 : Int32)) ∈ lw_tbl := List.mem_append_right _ (List.mem_of_getElem? (i := 1942) (by rfl))
set_option maxRecDepth 100000 in
theorem kx_1943 : (Jvm.Cond.constant "CoinJudgeModel" (850 : Nat) (648266853 : Int32)) ∈ lw_tbl := List.mem_append_right _ (List.mem_of_getElem? (i := 1943) (by rfl))
set_option maxRecDepth 100000 in
theorem kx_1944 : (Jvm.Cond.constant "CoinJudgeModel" (851 : Nat) (1211816567 : Int32)) ∈ lw_tbl := List.mem_append_right _ (List.mem_of_getElem? (i := 1944) (by rfl))
set_option maxRecDepth 100000 in
theorem kx_1952 : (Jvm.Cond.constantLong "CoinJudgeModel" (853 : Nat) (1000000 : Int64)) ∈ lw_tbl := List.mem_append_right _ (List.mem_of_getElem? (i := 1952) (by rfl))
set_option maxRecDepth 100000 in
theorem kx_2367 : (Jvm.Cond.constantLong "CoinJudgeModel" (886 : Nat) (1000600 : Int64)) ∈ lw_tbl := List.mem_append_right _ (List.mem_of_getElem? (i := 2367) (by rfl))
set_option maxRecDepth 100000 in
theorem kx_2395 : (Jvm.Cond.fieldLink "CoinJudgeModel" (785 : Nat) "CoinJudgeModel" "f" "[I") ∈ lw_tbl := List.mem_append_right _ (List.mem_of_getElem? (i := 2395) (by rfl))

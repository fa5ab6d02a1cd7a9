/-! THE REFERENCE: its constructor, rows of constants -/
def fil : (Nat → Nat) → List (Nat × Nat) → (Nat → Nat)
  | f, [] => f
  | f, p :: r => fil (va_up f p.1 p.2) r
def lst (L : List Nat) : Nat → Nat := fun j => L.getD j 0
theorem lst_set {L : List Nat} {i v : Nat} (h : i < L.length) : va_up (lst L) i v = lst (L.set i v) := by
  funext j
  unfold lst
  by_cases e : j = i
  · subst e
    rw [va_up_self, List.getD_eq_getElem?_getD, List.getElem?_set, if_pos rfl, if_pos h]
    rfl
  · rw [va_up_ne _ _ e, List.getD_eq_getElem?_getD, List.getD_eq_getElem?_getD, List.getElem?_set, if_neg (fun h => e h.symm)]
theorem fil_lst : ∀ (r : List (Nat × Nat)) (L : List Nat), (∀ p ∈ r, p.1 < L.length) → fil (lst L) r = lst (r.foldl (fun L p => L.set p.1 p.2) L)
  | [], _, _ => rfl
  | p :: r, L, h => by
    show fil (va_up (lst L) p.1 p.2) r = lst (r.foldl (fun L p => L.set p.1 p.2) (L.set p.1 p.2))
    rw [lst_set (h p List.mem_cons_self)]
    exact fil_lst r _ (fun q hq => by rw [List.length_set]; exact h q (List.mem_cons_of_mem _ hq))
theorem lst_z (n : Nat) : (fun _ => 0 : Nat → Nat) = lst (List.replicate n 0) := by
  funext j
  unfold lst
  rw [List.getD_eq_getElem?_getD, List.getElem?_replicate]
  split <;> rfl
theorem fil_row {n : Nat} {r : List (Nat × Nat)} {L : List Int32} (h : (∀ p ∈ r, p.1 < n)) (e : (r.foldl (fun L p => L.set p.1 p.2) (List.replicate n 0)).map nI = L) : kN n (fil (fun _ => 0) r) = kI n (ks_row L) := by
  have e1 : fil (fun _ => 0) r = lst (r.foldl (fun L p => L.set p.1 p.2) (List.replicate n 0)) := by
    rw [lst_z n]
    exact fil_lst r _ (fun p hp => by rw [List.length_replicate]; exact h p hp)
  rw [e1]
  have e2 : (fun j => nI (lst (r.foldl (fun L p => L.set p.1 p.2) (List.replicate n 0)) j)) = ks_row L := by
    funext j
    unfold ks_row lst
    rw [← e, List.getD_eq_getElem?_getD, List.getD_eq_getElem?_getD, List.getElem?_map]
    cases (r.foldl (fun L p => L.set p.1 p.2) (List.replicate n 0))[j]? <;> rfl
  show kI n (fun j => nI (lst (r.foldl (fun L p => L.set p.1 p.2) (List.replicate n 0)) j)) = _
  rw [e2]
def fl_O : List (Nat × Nat) := [(0, 0), (1, 1), (2, 2), (3, 3), (4, 4), (5, 5), (6, 6), (7, 7), (8, 8), (9, 9), (10, 10), (11, 11), (12, 12), (13, 13), (14, 14), (15, 15), (16, 7), (17, 4), (18, 13), (19, 1), (20, 10), (21, 6), (22, 15), (23, 3), (24, 12), (25, 0), (26, 9), (27, 5), (28, 2), (29, 14), (30, 11), (31, 8), (32, 3), (33, 10), (34, 14), (35, 4), (36, 9), (37, 15), (38, 8), (39, 1), (40, 2), (41, 7), (42, 0), (43, 6), (44, 13), (45, 11), (46, 5), (47, 12), (48, 1), (49, 9), (50, 11), (51, 10), (52, 0), (53, 8), (54, 12), (55, 4), (56, 13), (57, 3), (58, 7), (59, 15), (60, 14), (61, 5), (62, 6), (63, 2), (64, 4), (65, 0), (66, 5), (67, 9), (68, 7), (69, 12), (70, 2), (71, 10), (72, 14), (73, 1), (74, 3), (75, 8), (76, 11), (77, 6), (78, 15), (79, 13), (80, 5), (81, 14), (82, 7), (83, 0), (84, 9), (85, 2), (86, 11), (87, 4), (88, 13), (89, 6), (90, 15), (91, 8), (92, 1), (93, 10), (94, 3), (95, 12), (96, 6), (97, 11), (98, 3), (99, 7), (100, 0), (101, 13), (102, 5), (103, 10), (104, 14), (105, 15), (106, 8), (107, 12), (108, 4), (109, 9), (110, 1), (111, 2), (112, 15), (113, 5), (114, 1), (115, 3), (116, 7), (117, 14), (118, 6), (119, 9), (120, 11), (121, 8), (122, 12), (123, 2), (124, 10), (125, 0), (126, 4), (127, 13), (128, 8), (129, 6), (130, 4), (131, 1), (132, 3), (133, 11), (134, 15), (135, 0), (136, 5), (137, 12), (138, 2), (139, 13), (140, 9), (141, 7), (142, 10), (143, 14), (144, 12), (145, 15), (146, 10), (147, 4), (148, 1), (149, 5), (150, 8), (151, 7), (152, 6), (153, 2), (154, 13), (155, 14), (156, 0), (157, 3), (158, 9), (159, 11)]
set_option maxRecDepth 100000 in
set_option maxHeartbeats 3200000 in
theorem l_inO {l : Launch} {G : ks_G} {d : Nat} {S : ks_S} (h9 : S.2.2 300 = some (kN 160 (fun _ => 0))) {P9 : Option Value → ks_S → Prop} (hk : ∀ S1 : ks_S, ks_up S S1 [300] → S1.2.2 300 = some (kI 160 (ks_row st_RIPE_ORDER)) → ks_X l G mX16_init d 1008 [(0, .ref 290)] [.ref 300, .ref 290] S1 P9) : ks_X l G mX16_init d 82 [(0, .ref 290)] [.ref 300, .ref 290] S P9 := by
  have u0 : ks_up S S [300] := ks_up.rf _ _
  refine ks_dup dX16_init_82 rfl rfl ?_
  refine ks_iconst (x := nI 0) dX16_init_83 (by decide) rfl ?_
  refine ks_iconst (x := nI 0) dX16_init_84 (by decide) rfl ?_
  refine ks_iastNN (i := 0) (v := 0) (by decide) h9 (by decide) (by decide) dX16_init_85 rfl ?_
  refine ks_dup dX16_init_86 rfl rfl ?_
  refine ks_iconst (x := nI 1) dX16_init_87 (by decide) rfl ?_
  refine ks_iconst (x := nI 1) dX16_init_88 (by decide) rfl ?_
  refine ks_iastNN (i := 1) (v := 1) (by decide) (ks_set_same _ _ _) (by decide) (by decide) dX16_init_89 rfl ?_
  refine ks_dup dX16_init_90 rfl rfl ?_
  refine ks_iconst (x := nI 2) dX16_init_91 (by decide) rfl ?_
  refine ks_iconst (x := nI 2) dX16_init_92 (by decide) rfl ?_
  refine ks_iastNN (i := 2) (v := 2) (by decide) (ks_set_same _ _ _) (by decide) (by decide) dX16_init_93 rfl ?_
  refine ks_dup dX16_init_94 rfl rfl ?_
  refine ks_iconst (x := nI 3) dX16_init_95 (by decide) rfl ?_
  refine ks_iconst (x := nI 3) dX16_init_96 (by decide) rfl ?_
  refine ks_iastNN (i := 3) (v := 3) (by decide) (ks_set_same _ _ _) (by decide) (by decide) dX16_init_97 rfl ?_
  refine ks_dup dX16_init_98 rfl rfl ?_
  refine ks_iconst (x := nI 4) dX16_init_99 (by decide) rfl ?_
  refine ks_iconst (x := nI 4) dX16_init_100 (by decide) rfl ?_
  refine ks_iastNN (i := 4) (v := 4) (by decide) (ks_set_same _ _ _) (by decide) (by decide) dX16_init_101 rfl ?_
  refine ks_dup dX16_init_102 rfl rfl ?_
  refine ks_iconst (x := nI 5) dX16_init_103 (by decide) rfl ?_
  refine ks_iconst (x := nI 5) dX16_init_104 (by decide) rfl ?_
  refine ks_iastNN (i := 5) (v := 5) (by decide) (ks_set_same _ _ _) (by decide) (by decide) dX16_init_105 rfl ?_
  refine ks_dup dX16_init_106 rfl rfl ?_
  refine ks_bipush (x := nI 6) dX16_init_107 (by decide) rfl ?_
  refine ks_bipush (x := nI 6) dX16_init_109 (by decide) rfl ?_
  refine ks_iastNN (i := 6) (v := 6) (by decide) (ks_set_same _ _ _) (by decide) (by decide) dX16_init_111 rfl ?_
  refine ks_dup dX16_init_112 rfl rfl ?_
  refine ks_bipush (x := nI 7) dX16_init_113 (by decide) rfl ?_
  refine ks_bipush (x := nI 7) dX16_init_115 (by decide) rfl ?_
  refine ks_iastNN (i := 7) (v := 7) (by decide) (ks_set_same _ _ _) (by decide) (by decide) dX16_init_117 rfl ?_
  refine ks_dup dX16_init_118 rfl rfl ?_
  refine ks_bipush (x := nI 8) dX16_init_119 (by decide) rfl ?_
  refine ks_bipush (x := nI 8) dX16_init_121 (by decide) rfl ?_
  refine ks_iastNN (i := 8) (v := 8) (by decide) (ks_set_same _ _ _) (by decide) (by decide) dX16_init_123 rfl ?_
  refine ks_dup dX16_init_124 rfl rfl ?_
  refine ks_bipush (x := nI 9) dX16_init_125 (by decide) rfl ?_
  refine ks_bipush (x := nI 9) dX16_init_127 (by decide) rfl ?_
  refine ks_iastNN (i := 9) (v := 9) (by decide) (ks_set_same _ _ _) (by decide) (by decide) dX16_init_129 rfl ?_
  refine ks_dup dX16_init_130 rfl rfl ?_
  refine ks_bipush (x := nI 10) dX16_init_131 (by decide) rfl ?_
  refine ks_bipush (x := nI 10) dX16_init_133 (by decide) rfl ?_
  refine ks_iastNN (i := 10) (v := 10) (by decide) (ks_set_same _ _ _) (by decide) (by decide) dX16_init_135 rfl ?_
  refine ks_dup dX16_init_136 rfl rfl ?_
  refine ks_bipush (x := nI 11) dX16_init_137 (by decide) rfl ?_
  refine ks_bipush (x := nI 11) dX16_init_139 (by decide) rfl ?_
  refine ks_iastNN (i := 11) (v := 11) (by decide) (ks_set_same _ _ _) (by decide) (by decide) dX16_init_141 rfl ?_
  refine ks_dup dX16_init_142 rfl rfl ?_
  refine ks_bipush (x := nI 12) dX16_init_143 (by decide) rfl ?_
  refine ks_bipush (x := nI 12) dX16_init_145 (by decide) rfl ?_
  refine ks_iastNN (i := 12) (v := 12) (by decide) (ks_set_same _ _ _) (by decide) (by decide) dX16_init_147 rfl ?_
  refine ks_dup dX16_init_148 rfl rfl ?_
  refine ks_bipush (x := nI 13) dX16_init_149 (by decide) rfl ?_
  refine ks_bipush (x := nI 13) dX16_init_151 (by decide) rfl ?_
  refine ks_iastNN (i := 13) (v := 13) (by decide) (ks_set_same _ _ _) (by decide) (by decide) dX16_init_153 rfl ?_
  refine ks_dup dX16_init_154 rfl rfl ?_
  refine ks_bipush (x := nI 14) dX16_init_155 (by decide) rfl ?_
  refine ks_bipush (x := nI 14) dX16_init_157 (by decide) rfl ?_
  refine ks_iastNN (i := 14) (v := 14) (by decide) (ks_set_same _ _ _) (by decide) (by decide) dX16_init_159 rfl ?_
  refine ks_dup dX16_init_160 rfl rfl ?_
  refine ks_bipush (x := nI 15) dX16_init_161 (by decide) rfl ?_
  refine ks_bipush (x := nI 15) dX16_init_163 (by decide) rfl ?_
  refine ks_iastNN (i := 15) (v := 15) (by decide) (ks_set_same _ _ _) (by decide) (by decide) dX16_init_165 rfl ?_
  refine ks_dup dX16_init_166 rfl rfl ?_
  refine ks_bipush (x := nI 16) dX16_init_167 (by decide) rfl ?_
  refine ks_bipush (x := nI 7) dX16_init_169 (by decide) rfl ?_
  refine ks_iastNN (i := 16) (v := 7) (by decide) (ks_set_same _ _ _) (by decide) (by decide) dX16_init_171 rfl ?_
  refine ks_dup dX16_init_172 rfl rfl ?_
  refine ks_bipush (x := nI 17) dX16_init_173 (by decide) rfl ?_
  refine ks_iconst (x := nI 4) dX16_init_175 (by decide) rfl ?_
  refine ks_iastNN (i := 17) (v := 4) (by decide) (ks_set_same _ _ _) (by decide) (by decide) dX16_init_176 rfl ?_
  refine ks_dup dX16_init_177 rfl rfl ?_
  refine ks_bipush (x := nI 18) dX16_init_178 (by decide) rfl ?_
  refine ks_bipush (x := nI 13) dX16_init_180 (by decide) rfl ?_
  refine ks_iastNN (i := 18) (v := 13) (by decide) (ks_set_same _ _ _) (by decide) (by decide) dX16_init_182 rfl ?_
  refine ks_dup dX16_init_183 rfl rfl ?_
  refine ks_bipush (x := nI 19) dX16_init_184 (by decide) rfl ?_
  refine ks_iconst (x := nI 1) dX16_init_186 (by decide) rfl ?_
  refine ks_iastNN (i := 19) (v := 1) (by decide) (ks_set_same _ _ _) (by decide) (by decide) dX16_init_187 rfl ?_
  refine ks_nm (fun T1 e9 => ?_)
  have v1 : ks_up S T1 [300] := by rw [e9]; exact ks_upL (ks_upL (ks_upL (ks_upL (ks_upL (ks_upL (ks_upL (ks_upL (ks_upL (ks_upL (ks_upL (ks_upL (ks_upL (ks_upL (ks_upL (ks_upL (ks_upL (ks_upL (ks_upL (ks_up_set _ _ (List.mem_singleton.mpr rfl)) (List.mem_singleton.mpr rfl)) (List.mem_singleton.mpr rfl)) (List.mem_singleton.mpr rfl)) (List.mem_singleton.mpr rfl)) (List.mem_singleton.mpr rfl)) (List.mem_singleton.mpr rfl)) (List.mem_singleton.mpr rfl)) (List.mem_singleton.mpr rfl)) (List.mem_singleton.mpr rfl)) (List.mem_singleton.mpr rfl)) (List.mem_singleton.mpr rfl)) (List.mem_singleton.mpr rfl)) (List.mem_singleton.mpr rfl)) (List.mem_singleton.mpr rfl)) (List.mem_singleton.mpr rfl)) (List.mem_singleton.mpr rfl)) (List.mem_singleton.mpr rfl)) (List.mem_singleton.mpr rfl)) (List.mem_singleton.mpr rfl)
  have f1 : T1.2.2 300 = some (kN 160 (fil (fun _ => 0) (fl_O.take 20))) := by rw [e9]; exact ks_set_same _ _ _
  clear e9
  have u1 := u0.trans v1
  refine ks_dup dX16_init_188 rfl rfl ?_
  refine ks_bipush (x := nI 20) dX16_init_189 (by decide) rfl ?_
  refine ks_bipush (x := nI 10) dX16_init_191 (by decide) rfl ?_
  refine ks_iastNN (i := 20) (v := 10) (by decide) f1 (by decide) (by decide) dX16_init_193 rfl ?_
  refine ks_dup dX16_init_194 rfl rfl ?_
  refine ks_bipush (x := nI 21) dX16_init_195 (by decide) rfl ?_
  refine ks_bipush (x := nI 6) dX16_init_197 (by decide) rfl ?_
  refine ks_iastNN (i := 21) (v := 6) (by decide) (ks_set_same _ _ _) (by decide) (by decide) dX16_init_199 rfl ?_
  refine ks_dup dX16_init_200 rfl rfl ?_
  refine ks_bipush (x := nI 22) dX16_init_201 (by decide) rfl ?_
  refine ks_bipush (x := nI 15) dX16_init_203 (by decide) rfl ?_
  refine ks_iastNN (i := 22) (v := 15) (by decide) (ks_set_same _ _ _) (by decide) (by decide) dX16_init_205 rfl ?_
  refine ks_dup dX16_init_206 rfl rfl ?_
  refine ks_bipush (x := nI 23) dX16_init_207 (by decide) rfl ?_
  refine ks_iconst (x := nI 3) dX16_init_209 (by decide) rfl ?_
  refine ks_iastNN (i := 23) (v := 3) (by decide) (ks_set_same _ _ _) (by decide) (by decide) dX16_init_210 rfl ?_
  refine ks_dup dX16_init_211 rfl rfl ?_
  refine ks_bipush (x := nI 24) dX16_init_212 (by decide) rfl ?_
  refine ks_bipush (x := nI 12) dX16_init_214 (by decide) rfl ?_
  refine ks_iastNN (i := 24) (v := 12) (by decide) (ks_set_same _ _ _) (by decide) (by decide) dX16_init_216 rfl ?_
  refine ks_dup dX16_init_217 rfl rfl ?_
  refine ks_bipush (x := nI 25) dX16_init_218 (by decide) rfl ?_
  refine ks_iconst (x := nI 0) dX16_init_220 (by decide) rfl ?_
  refine ks_iastNN (i := 25) (v := 0) (by decide) (ks_set_same _ _ _) (by decide) (by decide) dX16_init_221 rfl ?_
  refine ks_dup dX16_init_222 rfl rfl ?_
  refine ks_bipush (x := nI 26) dX16_init_223 (by decide) rfl ?_
  refine ks_bipush (x := nI 9) dX16_init_225 (by decide) rfl ?_
  refine ks_iastNN (i := 26) (v := 9) (by decide) (ks_set_same _ _ _) (by decide) (by decide) dX16_init_227 rfl ?_
  refine ks_dup dX16_init_228 rfl rfl ?_
  refine ks_bipush (x := nI 27) dX16_init_229 (by decide) rfl ?_
  refine ks_iconst (x := nI 5) dX16_init_231 (by decide) rfl ?_
  refine ks_iastNN (i := 27) (v := 5) (by decide) (ks_set_same _ _ _) (by decide) (by decide) dX16_init_232 rfl ?_
  refine ks_dup dX16_init_233 rfl rfl ?_
  refine ks_bipush (x := nI 28) dX16_init_234 (by decide) rfl ?_
  refine ks_iconst (x := nI 2) dX16_init_236 (by decide) rfl ?_
  refine ks_iastNN (i := 28) (v := 2) (by decide) (ks_set_same _ _ _) (by decide) (by decide) dX16_init_237 rfl ?_
  refine ks_dup dX16_init_238 rfl rfl ?_
  refine ks_bipush (x := nI 29) dX16_init_239 (by decide) rfl ?_
  refine ks_bipush (x := nI 14) dX16_init_241 (by decide) rfl ?_
  refine ks_iastNN (i := 29) (v := 14) (by decide) (ks_set_same _ _ _) (by decide) (by decide) dX16_init_243 rfl ?_
  refine ks_dup dX16_init_244 rfl rfl ?_
  refine ks_bipush (x := nI 30) dX16_init_245 (by decide) rfl ?_
  refine ks_bipush (x := nI 11) dX16_init_247 (by decide) rfl ?_
  refine ks_iastNN (i := 30) (v := 11) (by decide) (ks_set_same _ _ _) (by decide) (by decide) dX16_init_249 rfl ?_
  refine ks_dup dX16_init_250 rfl rfl ?_
  refine ks_bipush (x := nI 31) dX16_init_251 (by decide) rfl ?_
  refine ks_bipush (x := nI 8) dX16_init_253 (by decide) rfl ?_
  refine ks_iastNN (i := 31) (v := 8) (by decide) (ks_set_same _ _ _) (by decide) (by decide) dX16_init_255 rfl ?_
  refine ks_dup dX16_init_256 rfl rfl ?_
  refine ks_bipush (x := nI 32) dX16_init_257 (by decide) rfl ?_
  refine ks_iconst (x := nI 3) dX16_init_259 (by decide) rfl ?_
  refine ks_iastNN (i := 32) (v := 3) (by decide) (ks_set_same _ _ _) (by decide) (by decide) dX16_init_260 rfl ?_
  refine ks_dup dX16_init_261 rfl rfl ?_
  refine ks_bipush (x := nI 33) dX16_init_262 (by decide) rfl ?_
  refine ks_bipush (x := nI 10) dX16_init_264 (by decide) rfl ?_
  refine ks_iastNN (i := 33) (v := 10) (by decide) (ks_set_same _ _ _) (by decide) (by decide) dX16_init_266 rfl ?_
  refine ks_dup dX16_init_267 rfl rfl ?_
  refine ks_bipush (x := nI 34) dX16_init_268 (by decide) rfl ?_
  refine ks_bipush (x := nI 14) dX16_init_270 (by decide) rfl ?_
  refine ks_iastNN (i := 34) (v := 14) (by decide) (ks_set_same _ _ _) (by decide) (by decide) dX16_init_272 rfl ?_
  refine ks_dup dX16_init_273 rfl rfl ?_
  refine ks_bipush (x := nI 35) dX16_init_274 (by decide) rfl ?_
  refine ks_iconst (x := nI 4) dX16_init_276 (by decide) rfl ?_
  refine ks_iastNN (i := 35) (v := 4) (by decide) (ks_set_same _ _ _) (by decide) (by decide) dX16_init_277 rfl ?_
  refine ks_dup dX16_init_278 rfl rfl ?_
  refine ks_bipush (x := nI 36) dX16_init_279 (by decide) rfl ?_
  refine ks_bipush (x := nI 9) dX16_init_281 (by decide) rfl ?_
  refine ks_iastNN (i := 36) (v := 9) (by decide) (ks_set_same _ _ _) (by decide) (by decide) dX16_init_283 rfl ?_
  refine ks_dup dX16_init_284 rfl rfl ?_
  refine ks_bipush (x := nI 37) dX16_init_285 (by decide) rfl ?_
  refine ks_bipush (x := nI 15) dX16_init_287 (by decide) rfl ?_
  refine ks_iastNN (i := 37) (v := 15) (by decide) (ks_set_same _ _ _) (by decide) (by decide) dX16_init_289 rfl ?_
  refine ks_dup dX16_init_290 rfl rfl ?_
  refine ks_bipush (x := nI 38) dX16_init_291 (by decide) rfl ?_
  refine ks_bipush (x := nI 8) dX16_init_293 (by decide) rfl ?_
  refine ks_iastNN (i := 38) (v := 8) (by decide) (ks_set_same _ _ _) (by decide) (by decide) dX16_init_295 rfl ?_
  refine ks_dup dX16_init_296 rfl rfl ?_
  refine ks_bipush (x := nI 39) dX16_init_297 (by decide) rfl ?_
  refine ks_iconst (x := nI 1) dX16_init_299 (by decide) rfl ?_
  refine ks_iastNN (i := 39) (v := 1) (by decide) (ks_set_same _ _ _) (by decide) (by decide) dX16_init_300 rfl ?_
  refine ks_nm (fun T2 e9 => ?_)
  have v2 : ks_up T1 T2 [300] := by rw [e9]; exact ks_upL (ks_upL (ks_upL (ks_upL (ks_upL (ks_upL (ks_upL (ks_upL (ks_upL (ks_upL (ks_upL (ks_upL (ks_upL (ks_upL (ks_upL (ks_upL (ks_upL (ks_upL (ks_upL (ks_up_set _ _ (List.mem_singleton.mpr rfl)) (List.mem_singleton.mpr rfl)) (List.mem_singleton.mpr rfl)) (List.mem_singleton.mpr rfl)) (List.mem_singleton.mpr rfl)) (List.mem_singleton.mpr rfl)) (List.mem_singleton.mpr rfl)) (List.mem_singleton.mpr rfl)) (List.mem_singleton.mpr rfl)) (List.mem_singleton.mpr rfl)) (List.mem_singleton.mpr rfl)) (List.mem_singleton.mpr rfl)) (List.mem_singleton.mpr rfl)) (List.mem_singleton.mpr rfl)) (List.mem_singleton.mpr rfl)) (List.mem_singleton.mpr rfl)) (List.mem_singleton.mpr rfl)) (List.mem_singleton.mpr rfl)) (List.mem_singleton.mpr rfl)) (List.mem_singleton.mpr rfl)
  have f2 : T2.2.2 300 = some (kN 160 (fil (fun _ => 0) (fl_O.take 40))) := by rw [e9]; exact ks_set_same _ _ _
  clear e9
  have u2 := u1.trans v2
  refine ks_dup dX16_init_301 rfl rfl ?_
  refine ks_bipush (x := nI 40) dX16_init_302 (by decide) rfl ?_
  refine ks_iconst (x := nI 2) dX16_init_304 (by decide) rfl ?_
  refine ks_iastNN (i := 40) (v := 2) (by decide) f2 (by decide) (by decide) dX16_init_305 rfl ?_
  refine ks_dup dX16_init_306 rfl rfl ?_
  refine ks_bipush (x := nI 41) dX16_init_307 (by decide) rfl ?_
  refine ks_bipush (x := nI 7) dX16_init_309 (by decide) rfl ?_
  refine ks_iastNN (i := 41) (v := 7) (by decide) (ks_set_same _ _ _) (by decide) (by decide) dX16_init_311 rfl ?_
  refine ks_dup dX16_init_312 rfl rfl ?_
  refine ks_bipush (x := nI 42) dX16_init_313 (by decide) rfl ?_
  refine ks_iconst (x := nI 0) dX16_init_315 (by decide) rfl ?_
  refine ks_iastNN (i := 42) (v := 0) (by decide) (ks_set_same _ _ _) (by decide) (by decide) dX16_init_316 rfl ?_
  refine ks_dup dX16_init_317 rfl rfl ?_
  refine ks_bipush (x := nI 43) dX16_init_318 (by decide) rfl ?_
  refine ks_bipush (x := nI 6) dX16_init_320 (by decide) rfl ?_
  refine ks_iastNN (i := 43) (v := 6) (by decide) (ks_set_same _ _ _) (by decide) (by decide) dX16_init_322 rfl ?_
  refine ks_dup dX16_init_323 rfl rfl ?_
  refine ks_bipush (x := nI 44) dX16_init_324 (by decide) rfl ?_
  refine ks_bipush (x := nI 13) dX16_init_326 (by decide) rfl ?_
  refine ks_iastNN (i := 44) (v := 13) (by decide) (ks_set_same _ _ _) (by decide) (by decide) dX16_init_328 rfl ?_
  refine ks_dup dX16_init_329 rfl rfl ?_
  refine ks_bipush (x := nI 45) dX16_init_330 (by decide) rfl ?_
  refine ks_bipush (x := nI 11) dX16_init_332 (by decide) rfl ?_
  refine ks_iastNN (i := 45) (v := 11) (by decide) (ks_set_same _ _ _) (by decide) (by decide) dX16_init_334 rfl ?_
  refine ks_dup dX16_init_335 rfl rfl ?_
  refine ks_bipush (x := nI 46) dX16_init_336 (by decide) rfl ?_
  refine ks_iconst (x := nI 5) dX16_init_338 (by decide) rfl ?_
  refine ks_iastNN (i := 46) (v := 5) (by decide) (ks_set_same _ _ _) (by decide) (by decide) dX16_init_339 rfl ?_
  refine ks_dup dX16_init_340 rfl rfl ?_
  refine ks_bipush (x := nI 47) dX16_init_341 (by decide) rfl ?_
  refine ks_bipush (x := nI 12) dX16_init_343 (by decide) rfl ?_
  refine ks_iastNN (i := 47) (v := 12) (by decide) (ks_set_same _ _ _) (by decide) (by decide) dX16_init_345 rfl ?_
  refine ks_dup dX16_init_346 rfl rfl ?_
  refine ks_bipush (x := nI 48) dX16_init_347 (by decide) rfl ?_
  refine ks_iconst (x := nI 1) dX16_init_349 (by decide) rfl ?_
  refine ks_iastNN (i := 48) (v := 1) (by decide) (ks_set_same _ _ _) (by decide) (by decide) dX16_init_350 rfl ?_
  refine ks_dup dX16_init_351 rfl rfl ?_
  refine ks_bipush (x := nI 49) dX16_init_352 (by decide) rfl ?_
  refine ks_bipush (x := nI 9) dX16_init_354 (by decide) rfl ?_
  refine ks_iastNN (i := 49) (v := 9) (by decide) (ks_set_same _ _ _) (by decide) (by decide) dX16_init_356 rfl ?_
  refine ks_dup dX16_init_357 rfl rfl ?_
  refine ks_bipush (x := nI 50) dX16_init_358 (by decide) rfl ?_
  refine ks_bipush (x := nI 11) dX16_init_360 (by decide) rfl ?_
  refine ks_iastNN (i := 50) (v := 11) (by decide) (ks_set_same _ _ _) (by decide) (by decide) dX16_init_362 rfl ?_
  refine ks_dup dX16_init_363 rfl rfl ?_
  refine ks_bipush (x := nI 51) dX16_init_364 (by decide) rfl ?_
  refine ks_bipush (x := nI 10) dX16_init_366 (by decide) rfl ?_
  refine ks_iastNN (i := 51) (v := 10) (by decide) (ks_set_same _ _ _) (by decide) (by decide) dX16_init_368 rfl ?_
  refine ks_dup dX16_init_369 rfl rfl ?_
  refine ks_bipush (x := nI 52) dX16_init_370 (by decide) rfl ?_
  refine ks_iconst (x := nI 0) dX16_init_372 (by decide) rfl ?_
  refine ks_iastNN (i := 52) (v := 0) (by decide) (ks_set_same _ _ _) (by decide) (by decide) dX16_init_373 rfl ?_
  refine ks_dup dX16_init_374 rfl rfl ?_
  refine ks_bipush (x := nI 53) dX16_init_375 (by decide) rfl ?_
  refine ks_bipush (x := nI 8) dX16_init_377 (by decide) rfl ?_
  refine ks_iastNN (i := 53) (v := 8) (by decide) (ks_set_same _ _ _) (by decide) (by decide) dX16_init_379 rfl ?_
  refine ks_dup dX16_init_380 rfl rfl ?_
  refine ks_bipush (x := nI 54) dX16_init_381 (by decide) rfl ?_
  refine ks_bipush (x := nI 12) dX16_init_383 (by decide) rfl ?_
  refine ks_iastNN (i := 54) (v := 12) (by decide) (ks_set_same _ _ _) (by decide) (by decide) dX16_init_385 rfl ?_
  refine ks_dup dX16_init_386 rfl rfl ?_
  refine ks_bipush (x := nI 55) dX16_init_387 (by decide) rfl ?_
  refine ks_iconst (x := nI 4) dX16_init_389 (by decide) rfl ?_
  refine ks_iastNN (i := 55) (v := 4) (by decide) (ks_set_same _ _ _) (by decide) (by decide) dX16_init_390 rfl ?_
  refine ks_dup dX16_init_391 rfl rfl ?_
  refine ks_bipush (x := nI 56) dX16_init_392 (by decide) rfl ?_
  refine ks_bipush (x := nI 13) dX16_init_394 (by decide) rfl ?_
  refine ks_iastNN (i := 56) (v := 13) (by decide) (ks_set_same _ _ _) (by decide) (by decide) dX16_init_396 rfl ?_
  refine ks_dup dX16_init_397 rfl rfl ?_
  refine ks_bipush (x := nI 57) dX16_init_398 (by decide) rfl ?_
  refine ks_iconst (x := nI 3) dX16_init_400 (by decide) rfl ?_
  refine ks_iastNN (i := 57) (v := 3) (by decide) (ks_set_same _ _ _) (by decide) (by decide) dX16_init_401 rfl ?_
  refine ks_dup dX16_init_402 rfl rfl ?_
  refine ks_bipush (x := nI 58) dX16_init_403 (by decide) rfl ?_
  refine ks_bipush (x := nI 7) dX16_init_405 (by decide) rfl ?_
  refine ks_iastNN (i := 58) (v := 7) (by decide) (ks_set_same _ _ _) (by decide) (by decide) dX16_init_407 rfl ?_
  refine ks_dup dX16_init_408 rfl rfl ?_
  refine ks_bipush (x := nI 59) dX16_init_409 (by decide) rfl ?_
  refine ks_bipush (x := nI 15) dX16_init_411 (by decide) rfl ?_
  refine ks_iastNN (i := 59) (v := 15) (by decide) (ks_set_same _ _ _) (by decide) (by decide) dX16_init_413 rfl ?_
  refine ks_nm (fun T3 e9 => ?_)
  have v3 : ks_up T2 T3 [300] := by rw [e9]; exact ks_upL (ks_upL (ks_upL (ks_upL (ks_upL (ks_upL (ks_upL (ks_upL (ks_upL (ks_upL (ks_upL (ks_upL (ks_upL (ks_upL (ks_upL (ks_upL (ks_upL (ks_upL (ks_upL (ks_up_set _ _ (List.mem_singleton.mpr rfl)) (List.mem_singleton.mpr rfl)) (List.mem_singleton.mpr rfl)) (List.mem_singleton.mpr rfl)) (List.mem_singleton.mpr rfl)) (List.mem_singleton.mpr rfl)) (List.mem_singleton.mpr rfl)) (List.mem_singleton.mpr rfl)) (List.mem_singleton.mpr rfl)) (List.mem_singleton.mpr rfl)) (List.mem_singleton.mpr rfl)) (List.mem_singleton.mpr rfl)) (List.mem_singleton.mpr rfl)) (List.mem_singleton.mpr rfl)) (List.mem_singleton.mpr rfl)) (List.mem_singleton.mpr rfl)) (List.mem_singleton.mpr rfl)) (List.mem_singleton.mpr rfl)) (List.mem_singleton.mpr rfl)) (List.mem_singleton.mpr rfl)
  have f3 : T3.2.2 300 = some (kN 160 (fil (fun _ => 0) (fl_O.take 60))) := by rw [e9]; exact ks_set_same _ _ _
  clear e9
  have u3 := u2.trans v3
  refine ks_dup dX16_init_414 rfl rfl ?_
  refine ks_bipush (x := nI 60) dX16_init_415 (by decide) rfl ?_
  refine ks_bipush (x := nI 14) dX16_init_417 (by decide) rfl ?_
  refine ks_iastNN (i := 60) (v := 14) (by decide) f3 (by decide) (by decide) dX16_init_419 rfl ?_
  refine ks_dup dX16_init_420 rfl rfl ?_
  refine ks_bipush (x := nI 61) dX16_init_421 (by decide) rfl ?_
  refine ks_iconst (x := nI 5) dX16_init_423 (by decide) rfl ?_
  refine ks_iastNN (i := 61) (v := 5) (by decide) (ks_set_same _ _ _) (by decide) (by decide) dX16_init_424 rfl ?_
  refine ks_dup dX16_init_425 rfl rfl ?_
  refine ks_bipush (x := nI 62) dX16_init_426 (by decide) rfl ?_
  refine ks_bipush (x := nI 6) dX16_init_428 (by decide) rfl ?_
  refine ks_iastNN (i := 62) (v := 6) (by decide) (ks_set_same _ _ _) (by decide) (by decide) dX16_init_430 rfl ?_
  refine ks_dup dX16_init_431 rfl rfl ?_
  refine ks_bipush (x := nI 63) dX16_init_432 (by decide) rfl ?_
  refine ks_iconst (x := nI 2) dX16_init_434 (by decide) rfl ?_
  refine ks_iastNN (i := 63) (v := 2) (by decide) (ks_set_same _ _ _) (by decide) (by decide) dX16_init_435 rfl ?_
  refine ks_dup dX16_init_436 rfl rfl ?_
  refine ks_bipush (x := nI 64) dX16_init_437 (by decide) rfl ?_
  refine ks_iconst (x := nI 4) dX16_init_439 (by decide) rfl ?_
  refine ks_iastNN (i := 64) (v := 4) (by decide) (ks_set_same _ _ _) (by decide) (by decide) dX16_init_440 rfl ?_
  refine ks_dup dX16_init_441 rfl rfl ?_
  refine ks_bipush (x := nI 65) dX16_init_442 (by decide) rfl ?_
  refine ks_iconst (x := nI 0) dX16_init_444 (by decide) rfl ?_
  refine ks_iastNN (i := 65) (v := 0) (by decide) (ks_set_same _ _ _) (by decide) (by decide) dX16_init_445 rfl ?_
  refine ks_dup dX16_init_446 rfl rfl ?_
  refine ks_bipush (x := nI 66) dX16_init_447 (by decide) rfl ?_
  refine ks_iconst (x := nI 5) dX16_init_449 (by decide) rfl ?_
  refine ks_iastNN (i := 66) (v := 5) (by decide) (ks_set_same _ _ _) (by decide) (by decide) dX16_init_450 rfl ?_
  refine ks_dup dX16_init_451 rfl rfl ?_
  refine ks_bipush (x := nI 67) dX16_init_452 (by decide) rfl ?_
  refine ks_bipush (x := nI 9) dX16_init_454 (by decide) rfl ?_
  refine ks_iastNN (i := 67) (v := 9) (by decide) (ks_set_same _ _ _) (by decide) (by decide) dX16_init_456 rfl ?_
  refine ks_dup dX16_init_457 rfl rfl ?_
  refine ks_bipush (x := nI 68) dX16_init_458 (by decide) rfl ?_
  refine ks_bipush (x := nI 7) dX16_init_460 (by decide) rfl ?_
  refine ks_iastNN (i := 68) (v := 7) (by decide) (ks_set_same _ _ _) (by decide) (by decide) dX16_init_462 rfl ?_
  refine ks_dup dX16_init_463 rfl rfl ?_
  refine ks_bipush (x := nI 69) dX16_init_464 (by decide) rfl ?_
  refine ks_bipush (x := nI 12) dX16_init_466 (by decide) rfl ?_
  refine ks_iastNN (i := 69) (v := 12) (by decide) (ks_set_same _ _ _) (by decide) (by decide) dX16_init_468 rfl ?_
  refine ks_dup dX16_init_469 rfl rfl ?_
  refine ks_bipush (x := nI 70) dX16_init_470 (by decide) rfl ?_
  refine ks_iconst (x := nI 2) dX16_init_472 (by decide) rfl ?_
  refine ks_iastNN (i := 70) (v := 2) (by decide) (ks_set_same _ _ _) (by decide) (by decide) dX16_init_473 rfl ?_
  refine ks_dup dX16_init_474 rfl rfl ?_
  refine ks_bipush (x := nI 71) dX16_init_475 (by decide) rfl ?_
  refine ks_bipush (x := nI 10) dX16_init_477 (by decide) rfl ?_
  refine ks_iastNN (i := 71) (v := 10) (by decide) (ks_set_same _ _ _) (by decide) (by decide) dX16_init_479 rfl ?_
  refine ks_dup dX16_init_480 rfl rfl ?_
  refine ks_bipush (x := nI 72) dX16_init_481 (by decide) rfl ?_
  refine ks_bipush (x := nI 14) dX16_init_483 (by decide) rfl ?_
  refine ks_iastNN (i := 72) (v := 14) (by decide) (ks_set_same _ _ _) (by decide) (by decide) dX16_init_485 rfl ?_
  refine ks_dup dX16_init_486 rfl rfl ?_
  refine ks_bipush (x := nI 73) dX16_init_487 (by decide) rfl ?_
  refine ks_iconst (x := nI 1) dX16_init_489 (by decide) rfl ?_
  refine ks_iastNN (i := 73) (v := 1) (by decide) (ks_set_same _ _ _) (by decide) (by decide) dX16_init_490 rfl ?_
  refine ks_dup dX16_init_491 rfl rfl ?_
  refine ks_bipush (x := nI 74) dX16_init_492 (by decide) rfl ?_
  refine ks_iconst (x := nI 3) dX16_init_494 (by decide) rfl ?_
  refine ks_iastNN (i := 74) (v := 3) (by decide) (ks_set_same _ _ _) (by decide) (by decide) dX16_init_495 rfl ?_
  refine ks_dup dX16_init_496 rfl rfl ?_
  refine ks_bipush (x := nI 75) dX16_init_497 (by decide) rfl ?_
  refine ks_bipush (x := nI 8) dX16_init_499 (by decide) rfl ?_
  refine ks_iastNN (i := 75) (v := 8) (by decide) (ks_set_same _ _ _) (by decide) (by decide) dX16_init_501 rfl ?_
  refine ks_dup dX16_init_502 rfl rfl ?_
  refine ks_bipush (x := nI 76) dX16_init_503 (by decide) rfl ?_
  refine ks_bipush (x := nI 11) dX16_init_505 (by decide) rfl ?_
  refine ks_iastNN (i := 76) (v := 11) (by decide) (ks_set_same _ _ _) (by decide) (by decide) dX16_init_507 rfl ?_
  refine ks_dup dX16_init_508 rfl rfl ?_
  refine ks_bipush (x := nI 77) dX16_init_509 (by decide) rfl ?_
  refine ks_bipush (x := nI 6) dX16_init_511 (by decide) rfl ?_
  refine ks_iastNN (i := 77) (v := 6) (by decide) (ks_set_same _ _ _) (by decide) (by decide) dX16_init_513 rfl ?_
  refine ks_dup dX16_init_514 rfl rfl ?_
  refine ks_bipush (x := nI 78) dX16_init_515 (by decide) rfl ?_
  refine ks_bipush (x := nI 15) dX16_init_517 (by decide) rfl ?_
  refine ks_iastNN (i := 78) (v := 15) (by decide) (ks_set_same _ _ _) (by decide) (by decide) dX16_init_519 rfl ?_
  refine ks_dup dX16_init_520 rfl rfl ?_
  refine ks_bipush (x := nI 79) dX16_init_521 (by decide) rfl ?_
  refine ks_bipush (x := nI 13) dX16_init_523 (by decide) rfl ?_
  refine ks_iastNN (i := 79) (v := 13) (by decide) (ks_set_same _ _ _) (by decide) (by decide) dX16_init_525 rfl ?_
  refine ks_nm (fun T4 e9 => ?_)
  have v4 : ks_up T3 T4 [300] := by rw [e9]; exact ks_upL (ks_upL (ks_upL (ks_upL (ks_upL (ks_upL (ks_upL (ks_upL (ks_upL (ks_upL (ks_upL (ks_upL (ks_upL (ks_upL (ks_upL (ks_upL (ks_upL (ks_upL (ks_upL (ks_up_set _ _ (List.mem_singleton.mpr rfl)) (List.mem_singleton.mpr rfl)) (List.mem_singleton.mpr rfl)) (List.mem_singleton.mpr rfl)) (List.mem_singleton.mpr rfl)) (List.mem_singleton.mpr rfl)) (List.mem_singleton.mpr rfl)) (List.mem_singleton.mpr rfl)) (List.mem_singleton.mpr rfl)) (List.mem_singleton.mpr rfl)) (List.mem_singleton.mpr rfl)) (List.mem_singleton.mpr rfl)) (List.mem_singleton.mpr rfl)) (List.mem_singleton.mpr rfl)) (List.mem_singleton.mpr rfl)) (List.mem_singleton.mpr rfl)) (List.mem_singleton.mpr rfl)) (List.mem_singleton.mpr rfl)) (List.mem_singleton.mpr rfl)) (List.mem_singleton.mpr rfl)
  have f4 : T4.2.2 300 = some (kN 160 (fil (fun _ => 0) (fl_O.take 80))) := by rw [e9]; exact ks_set_same _ _ _
  clear e9
  have u4 := u3.trans v4
  refine ks_dup dX16_init_526 rfl rfl ?_
  refine ks_bipush (x := nI 80) dX16_init_527 (by decide) rfl ?_
  refine ks_iconst (x := nI 5) dX16_init_529 (by decide) rfl ?_
  refine ks_iastNN (i := 80) (v := 5) (by decide) f4 (by decide) (by decide) dX16_init_530 rfl ?_
  refine ks_dup dX16_init_531 rfl rfl ?_
  refine ks_bipush (x := nI 81) dX16_init_532 (by decide) rfl ?_
  refine ks_bipush (x := nI 14) dX16_init_534 (by decide) rfl ?_
  refine ks_iastNN (i := 81) (v := 14) (by decide) (ks_set_same _ _ _) (by decide) (by decide) dX16_init_536 rfl ?_
  refine ks_dup dX16_init_537 rfl rfl ?_
  refine ks_bipush (x := nI 82) dX16_init_538 (by decide) rfl ?_
  refine ks_bipush (x := nI 7) dX16_init_540 (by decide) rfl ?_
  refine ks_iastNN (i := 82) (v := 7) (by decide) (ks_set_same _ _ _) (by decide) (by decide) dX16_init_542 rfl ?_
  refine ks_dup dX16_init_543 rfl rfl ?_
  refine ks_bipush (x := nI 83) dX16_init_544 (by decide) rfl ?_
  refine ks_iconst (x := nI 0) dX16_init_546 (by decide) rfl ?_
  refine ks_iastNN (i := 83) (v := 0) (by decide) (ks_set_same _ _ _) (by decide) (by decide) dX16_init_547 rfl ?_
  refine ks_dup dX16_init_548 rfl rfl ?_
  refine ks_bipush (x := nI 84) dX16_init_549 (by decide) rfl ?_
  refine ks_bipush (x := nI 9) dX16_init_551 (by decide) rfl ?_
  refine ks_iastNN (i := 84) (v := 9) (by decide) (ks_set_same _ _ _) (by decide) (by decide) dX16_init_553 rfl ?_
  refine ks_dup dX16_init_554 rfl rfl ?_
  refine ks_bipush (x := nI 85) dX16_init_555 (by decide) rfl ?_
  refine ks_iconst (x := nI 2) dX16_init_557 (by decide) rfl ?_
  refine ks_iastNN (i := 85) (v := 2) (by decide) (ks_set_same _ _ _) (by decide) (by decide) dX16_init_558 rfl ?_
  refine ks_dup dX16_init_559 rfl rfl ?_
  refine ks_bipush (x := nI 86) dX16_init_560 (by decide) rfl ?_
  refine ks_bipush (x := nI 11) dX16_init_562 (by decide) rfl ?_
  refine ks_iastNN (i := 86) (v := 11) (by decide) (ks_set_same _ _ _) (by decide) (by decide) dX16_init_564 rfl ?_
  refine ks_dup dX16_init_565 rfl rfl ?_
  refine ks_bipush (x := nI 87) dX16_init_566 (by decide) rfl ?_
  refine ks_iconst (x := nI 4) dX16_init_568 (by decide) rfl ?_
  refine ks_iastNN (i := 87) (v := 4) (by decide) (ks_set_same _ _ _) (by decide) (by decide) dX16_init_569 rfl ?_
  refine ks_dup dX16_init_570 rfl rfl ?_
  refine ks_bipush (x := nI 88) dX16_init_571 (by decide) rfl ?_
  refine ks_bipush (x := nI 13) dX16_init_573 (by decide) rfl ?_
  refine ks_iastNN (i := 88) (v := 13) (by decide) (ks_set_same _ _ _) (by decide) (by decide) dX16_init_575 rfl ?_
  refine ks_dup dX16_init_576 rfl rfl ?_
  refine ks_bipush (x := nI 89) dX16_init_577 (by decide) rfl ?_
  refine ks_bipush (x := nI 6) dX16_init_579 (by decide) rfl ?_
  refine ks_iastNN (i := 89) (v := 6) (by decide) (ks_set_same _ _ _) (by decide) (by decide) dX16_init_581 rfl ?_
  refine ks_dup dX16_init_582 rfl rfl ?_
  refine ks_bipush (x := nI 90) dX16_init_583 (by decide) rfl ?_
  refine ks_bipush (x := nI 15) dX16_init_585 (by decide) rfl ?_
  refine ks_iastNN (i := 90) (v := 15) (by decide) (ks_set_same _ _ _) (by decide) (by decide) dX16_init_587 rfl ?_
  refine ks_dup dX16_init_588 rfl rfl ?_
  refine ks_bipush (x := nI 91) dX16_init_589 (by decide) rfl ?_
  refine ks_bipush (x := nI 8) dX16_init_591 (by decide) rfl ?_
  refine ks_iastNN (i := 91) (v := 8) (by decide) (ks_set_same _ _ _) (by decide) (by decide) dX16_init_593 rfl ?_
  refine ks_dup dX16_init_594 rfl rfl ?_
  refine ks_bipush (x := nI 92) dX16_init_595 (by decide) rfl ?_
  refine ks_iconst (x := nI 1) dX16_init_597 (by decide) rfl ?_
  refine ks_iastNN (i := 92) (v := 1) (by decide) (ks_set_same _ _ _) (by decide) (by decide) dX16_init_598 rfl ?_
  refine ks_dup dX16_init_599 rfl rfl ?_
  refine ks_bipush (x := nI 93) dX16_init_600 (by decide) rfl ?_
  refine ks_bipush (x := nI 10) dX16_init_602 (by decide) rfl ?_
  refine ks_iastNN (i := 93) (v := 10) (by decide) (ks_set_same _ _ _) (by decide) (by decide) dX16_init_604 rfl ?_
  refine ks_dup dX16_init_605 rfl rfl ?_
  refine ks_bipush (x := nI 94) dX16_init_606 (by decide) rfl ?_
  refine ks_iconst (x := nI 3) dX16_init_608 (by decide) rfl ?_
  refine ks_iastNN (i := 94) (v := 3) (by decide) (ks_set_same _ _ _) (by decide) (by decide) dX16_init_609 rfl ?_
  refine ks_dup dX16_init_610 rfl rfl ?_
  refine ks_bipush (x := nI 95) dX16_init_611 (by decide) rfl ?_
  refine ks_bipush (x := nI 12) dX16_init_613 (by decide) rfl ?_
  refine ks_iastNN (i := 95) (v := 12) (by decide) (ks_set_same _ _ _) (by decide) (by decide) dX16_init_615 rfl ?_
  refine ks_dup dX16_init_616 rfl rfl ?_
  refine ks_bipush (x := nI 96) dX16_init_617 (by decide) rfl ?_
  refine ks_bipush (x := nI 6) dX16_init_619 (by decide) rfl ?_
  refine ks_iastNN (i := 96) (v := 6) (by decide) (ks_set_same _ _ _) (by decide) (by decide) dX16_init_621 rfl ?_
  refine ks_dup dX16_init_622 rfl rfl ?_
  refine ks_bipush (x := nI 97) dX16_init_623 (by decide) rfl ?_
  refine ks_bipush (x := nI 11) dX16_init_625 (by decide) rfl ?_
  refine ks_iastNN (i := 97) (v := 11) (by decide) (ks_set_same _ _ _) (by decide) (by decide) dX16_init_627 rfl ?_
  refine ks_dup dX16_init_628 rfl rfl ?_
  refine ks_bipush (x := nI 98) dX16_init_629 (by decide) rfl ?_
  refine ks_iconst (x := nI 3) dX16_init_631 (by decide) rfl ?_
  refine ks_iastNN (i := 98) (v := 3) (by decide) (ks_set_same _ _ _) (by decide) (by decide) dX16_init_632 rfl ?_
  refine ks_dup dX16_init_633 rfl rfl ?_
  refine ks_bipush (x := nI 99) dX16_init_634 (by decide) rfl ?_
  refine ks_bipush (x := nI 7) dX16_init_636 (by decide) rfl ?_
  refine ks_iastNN (i := 99) (v := 7) (by decide) (ks_set_same _ _ _) (by decide) (by decide) dX16_init_638 rfl ?_
  refine ks_nm (fun T5 e9 => ?_)
  have v5 : ks_up T4 T5 [300] := by rw [e9]; exact ks_upL (ks_upL (ks_upL (ks_upL (ks_upL (ks_upL (ks_upL (ks_upL (ks_upL (ks_upL (ks_upL (ks_upL (ks_upL (ks_upL (ks_upL (ks_upL (ks_upL (ks_upL (ks_upL (ks_up_set _ _ (List.mem_singleton.mpr rfl)) (List.mem_singleton.mpr rfl)) (List.mem_singleton.mpr rfl)) (List.mem_singleton.mpr rfl)) (List.mem_singleton.mpr rfl)) (List.mem_singleton.mpr rfl)) (List.mem_singleton.mpr rfl)) (List.mem_singleton.mpr rfl)) (List.mem_singleton.mpr rfl)) (List.mem_singleton.mpr rfl)) (List.mem_singleton.mpr rfl)) (List.mem_singleton.mpr rfl)) (List.mem_singleton.mpr rfl)) (List.mem_singleton.mpr rfl)) (List.mem_singleton.mpr rfl)) (List.mem_singleton.mpr rfl)) (List.mem_singleton.mpr rfl)) (List.mem_singleton.mpr rfl)) (List.mem_singleton.mpr rfl)) (List.mem_singleton.mpr rfl)
  have f5 : T5.2.2 300 = some (kN 160 (fil (fun _ => 0) (fl_O.take 100))) := by rw [e9]; exact ks_set_same _ _ _
  clear e9
  have u5 := u4.trans v5
  refine ks_dup dX16_init_639 rfl rfl ?_
  refine ks_bipush (x := nI 100) dX16_init_640 (by decide) rfl ?_
  refine ks_iconst (x := nI 0) dX16_init_642 (by decide) rfl ?_
  refine ks_iastNN (i := 100) (v := 0) (by decide) f5 (by decide) (by decide) dX16_init_643 rfl ?_
  refine ks_dup dX16_init_644 rfl rfl ?_
  refine ks_bipush (x := nI 101) dX16_init_645 (by decide) rfl ?_
  refine ks_bipush (x := nI 13) dX16_init_647 (by decide) rfl ?_
  refine ks_iastNN (i := 101) (v := 13) (by decide) (ks_set_same _ _ _) (by decide) (by decide) dX16_init_649 rfl ?_
  refine ks_dup dX16_init_650 rfl rfl ?_
  refine ks_bipush (x := nI 102) dX16_init_651 (by decide) rfl ?_
  refine ks_iconst (x := nI 5) dX16_init_653 (by decide) rfl ?_
  refine ks_iastNN (i := 102) (v := 5) (by decide) (ks_set_same _ _ _) (by decide) (by decide) dX16_init_654 rfl ?_
  refine ks_dup dX16_init_655 rfl rfl ?_
  refine ks_bipush (x := nI 103) dX16_init_656 (by decide) rfl ?_
  refine ks_bipush (x := nI 10) dX16_init_658 (by decide) rfl ?_
  refine ks_iastNN (i := 103) (v := 10) (by decide) (ks_set_same _ _ _) (by decide) (by decide) dX16_init_660 rfl ?_
  refine ks_dup dX16_init_661 rfl rfl ?_
  refine ks_bipush (x := nI 104) dX16_init_662 (by decide) rfl ?_
  refine ks_bipush (x := nI 14) dX16_init_664 (by decide) rfl ?_
  refine ks_iastNN (i := 104) (v := 14) (by decide) (ks_set_same _ _ _) (by decide) (by decide) dX16_init_666 rfl ?_
  refine ks_dup dX16_init_667 rfl rfl ?_
  refine ks_bipush (x := nI 105) dX16_init_668 (by decide) rfl ?_
  refine ks_bipush (x := nI 15) dX16_init_670 (by decide) rfl ?_
  refine ks_iastNN (i := 105) (v := 15) (by decide) (ks_set_same _ _ _) (by decide) (by decide) dX16_init_672 rfl ?_
  refine ks_dup dX16_init_673 rfl rfl ?_
  refine ks_bipush (x := nI 106) dX16_init_674 (by decide) rfl ?_
  refine ks_bipush (x := nI 8) dX16_init_676 (by decide) rfl ?_
  refine ks_iastNN (i := 106) (v := 8) (by decide) (ks_set_same _ _ _) (by decide) (by decide) dX16_init_678 rfl ?_
  refine ks_dup dX16_init_679 rfl rfl ?_
  refine ks_bipush (x := nI 107) dX16_init_680 (by decide) rfl ?_
  refine ks_bipush (x := nI 12) dX16_init_682 (by decide) rfl ?_
  refine ks_iastNN (i := 107) (v := 12) (by decide) (ks_set_same _ _ _) (by decide) (by decide) dX16_init_684 rfl ?_
  refine ks_dup dX16_init_685 rfl rfl ?_
  refine ks_bipush (x := nI 108) dX16_init_686 (by decide) rfl ?_
  refine ks_iconst (x := nI 4) dX16_init_688 (by decide) rfl ?_
  refine ks_iastNN (i := 108) (v := 4) (by decide) (ks_set_same _ _ _) (by decide) (by decide) dX16_init_689 rfl ?_
  refine ks_dup dX16_init_690 rfl rfl ?_
  refine ks_bipush (x := nI 109) dX16_init_691 (by decide) rfl ?_
  refine ks_bipush (x := nI 9) dX16_init_693 (by decide) rfl ?_
  refine ks_iastNN (i := 109) (v := 9) (by decide) (ks_set_same _ _ _) (by decide) (by decide) dX16_init_695 rfl ?_
  refine ks_dup dX16_init_696 rfl rfl ?_
  refine ks_bipush (x := nI 110) dX16_init_697 (by decide) rfl ?_
  refine ks_iconst (x := nI 1) dX16_init_699 (by decide) rfl ?_
  refine ks_iastNN (i := 110) (v := 1) (by decide) (ks_set_same _ _ _) (by decide) (by decide) dX16_init_700 rfl ?_
  refine ks_dup dX16_init_701 rfl rfl ?_
  refine ks_bipush (x := nI 111) dX16_init_702 (by decide) rfl ?_
  refine ks_iconst (x := nI 2) dX16_init_704 (by decide) rfl ?_
  refine ks_iastNN (i := 111) (v := 2) (by decide) (ks_set_same _ _ _) (by decide) (by decide) dX16_init_705 rfl ?_
  refine ks_dup dX16_init_706 rfl rfl ?_
  refine ks_bipush (x := nI 112) dX16_init_707 (by decide) rfl ?_
  refine ks_bipush (x := nI 15) dX16_init_709 (by decide) rfl ?_
  refine ks_iastNN (i := 112) (v := 15) (by decide) (ks_set_same _ _ _) (by decide) (by decide) dX16_init_711 rfl ?_
  refine ks_dup dX16_init_712 rfl rfl ?_
  refine ks_bipush (x := nI 113) dX16_init_713 (by decide) rfl ?_
  refine ks_iconst (x := nI 5) dX16_init_715 (by decide) rfl ?_
  refine ks_iastNN (i := 113) (v := 5) (by decide) (ks_set_same _ _ _) (by decide) (by decide) dX16_init_716 rfl ?_
  refine ks_dup dX16_init_717 rfl rfl ?_
  refine ks_bipush (x := nI 114) dX16_init_718 (by decide) rfl ?_
  refine ks_iconst (x := nI 1) dX16_init_720 (by decide) rfl ?_
  refine ks_iastNN (i := 114) (v := 1) (by decide) (ks_set_same _ _ _) (by decide) (by decide) dX16_init_721 rfl ?_
  refine ks_dup dX16_init_722 rfl rfl ?_
  refine ks_bipush (x := nI 115) dX16_init_723 (by decide) rfl ?_
  refine ks_iconst (x := nI 3) dX16_init_725 (by decide) rfl ?_
  refine ks_iastNN (i := 115) (v := 3) (by decide) (ks_set_same _ _ _) (by decide) (by decide) dX16_init_726 rfl ?_
  refine ks_dup dX16_init_727 rfl rfl ?_
  refine ks_bipush (x := nI 116) dX16_init_728 (by decide) rfl ?_
  refine ks_bipush (x := nI 7) dX16_init_730 (by decide) rfl ?_
  refine ks_iastNN (i := 116) (v := 7) (by decide) (ks_set_same _ _ _) (by decide) (by decide) dX16_init_732 rfl ?_
  refine ks_dup dX16_init_733 rfl rfl ?_
  refine ks_bipush (x := nI 117) dX16_init_734 (by decide) rfl ?_
  refine ks_bipush (x := nI 14) dX16_init_736 (by decide) rfl ?_
  refine ks_iastNN (i := 117) (v := 14) (by decide) (ks_set_same _ _ _) (by decide) (by decide) dX16_init_738 rfl ?_
  refine ks_dup dX16_init_739 rfl rfl ?_
  refine ks_bipush (x := nI 118) dX16_init_740 (by decide) rfl ?_
  refine ks_bipush (x := nI 6) dX16_init_742 (by decide) rfl ?_
  refine ks_iastNN (i := 118) (v := 6) (by decide) (ks_set_same _ _ _) (by decide) (by decide) dX16_init_744 rfl ?_
  refine ks_dup dX16_init_745 rfl rfl ?_
  refine ks_bipush (x := nI 119) dX16_init_746 (by decide) rfl ?_
  refine ks_bipush (x := nI 9) dX16_init_748 (by decide) rfl ?_
  refine ks_iastNN (i := 119) (v := 9) (by decide) (ks_set_same _ _ _) (by decide) (by decide) dX16_init_750 rfl ?_
  refine ks_nm (fun T6 e9 => ?_)
  have v6 : ks_up T5 T6 [300] := by rw [e9]; exact ks_upL (ks_upL (ks_upL (ks_upL (ks_upL (ks_upL (ks_upL (ks_upL (ks_upL (ks_upL (ks_upL (ks_upL (ks_upL (ks_upL (ks_upL (ks_upL (ks_upL (ks_upL (ks_upL (ks_up_set _ _ (List.mem_singleton.mpr rfl)) (List.mem_singleton.mpr rfl)) (List.mem_singleton.mpr rfl)) (List.mem_singleton.mpr rfl)) (List.mem_singleton.mpr rfl)) (List.mem_singleton.mpr rfl)) (List.mem_singleton.mpr rfl)) (List.mem_singleton.mpr rfl)) (List.mem_singleton.mpr rfl)) (List.mem_singleton.mpr rfl)) (List.mem_singleton.mpr rfl)) (List.mem_singleton.mpr rfl)) (List.mem_singleton.mpr rfl)) (List.mem_singleton.mpr rfl)) (List.mem_singleton.mpr rfl)) (List.mem_singleton.mpr rfl)) (List.mem_singleton.mpr rfl)) (List.mem_singleton.mpr rfl)) (List.mem_singleton.mpr rfl)) (List.mem_singleton.mpr rfl)
  have f6 : T6.2.2 300 = some (kN 160 (fil (fun _ => 0) (fl_O.take 120))) := by rw [e9]; exact ks_set_same _ _ _
  clear e9
  have u6 := u5.trans v6
  refine ks_dup dX16_init_751 rfl rfl ?_
  refine ks_bipush (x := nI 120) dX16_init_752 (by decide) rfl ?_
  refine ks_bipush (x := nI 11) dX16_init_754 (by decide) rfl ?_
  refine ks_iastNN (i := 120) (v := 11) (by decide) f6 (by decide) (by decide) dX16_init_756 rfl ?_
  refine ks_dup dX16_init_757 rfl rfl ?_
  refine ks_bipush (x := nI 121) dX16_init_758 (by decide) rfl ?_
  refine ks_bipush (x := nI 8) dX16_init_760 (by decide) rfl ?_
  refine ks_iastNN (i := 121) (v := 8) (by decide) (ks_set_same _ _ _) (by decide) (by decide) dX16_init_762 rfl ?_
  refine ks_dup dX16_init_763 rfl rfl ?_
  refine ks_bipush (x := nI 122) dX16_init_764 (by decide) rfl ?_
  refine ks_bipush (x := nI 12) dX16_init_766 (by decide) rfl ?_
  refine ks_iastNN (i := 122) (v := 12) (by decide) (ks_set_same _ _ _) (by decide) (by decide) dX16_init_768 rfl ?_
  refine ks_dup dX16_init_769 rfl rfl ?_
  refine ks_bipush (x := nI 123) dX16_init_770 (by decide) rfl ?_
  refine ks_iconst (x := nI 2) dX16_init_772 (by decide) rfl ?_
  refine ks_iastNN (i := 123) (v := 2) (by decide) (ks_set_same _ _ _) (by decide) (by decide) dX16_init_773 rfl ?_
  refine ks_dup dX16_init_774 rfl rfl ?_
  refine ks_bipush (x := nI 124) dX16_init_775 (by decide) rfl ?_
  refine ks_bipush (x := nI 10) dX16_init_777 (by decide) rfl ?_
  refine ks_iastNN (i := 124) (v := 10) (by decide) (ks_set_same _ _ _) (by decide) (by decide) dX16_init_779 rfl ?_
  refine ks_dup dX16_init_780 rfl rfl ?_
  refine ks_bipush (x := nI 125) dX16_init_781 (by decide) rfl ?_
  refine ks_iconst (x := nI 0) dX16_init_783 (by decide) rfl ?_
  refine ks_iastNN (i := 125) (v := 0) (by decide) (ks_set_same _ _ _) (by decide) (by decide) dX16_init_784 rfl ?_
  refine ks_dup dX16_init_785 rfl rfl ?_
  refine ks_bipush (x := nI 126) dX16_init_786 (by decide) rfl ?_
  refine ks_iconst (x := nI 4) dX16_init_788 (by decide) rfl ?_
  refine ks_iastNN (i := 126) (v := 4) (by decide) (ks_set_same _ _ _) (by decide) (by decide) dX16_init_789 rfl ?_
  refine ks_dup dX16_init_790 rfl rfl ?_
  refine ks_bipush (x := nI 127) dX16_init_791 (by decide) rfl ?_
  refine ks_bipush (x := nI 13) dX16_init_793 (by decide) rfl ?_
  refine ks_iastNN (i := 127) (v := 13) (by decide) (ks_set_same _ _ _) (by decide) (by decide) dX16_init_795 rfl ?_
  refine ks_dup dX16_init_796 rfl rfl ?_
  refine ks_sipush (x := nI 128) dX16_init_797 (by decide) rfl ?_
  refine ks_bipush (x := nI 8) dX16_init_800 (by decide) rfl ?_
  refine ks_iastNN (i := 128) (v := 8) (by decide) (ks_set_same _ _ _) (by decide) (by decide) dX16_init_802 rfl ?_
  refine ks_dup dX16_init_803 rfl rfl ?_
  refine ks_sipush (x := nI 129) dX16_init_804 (by decide) rfl ?_
  refine ks_bipush (x := nI 6) dX16_init_807 (by decide) rfl ?_
  refine ks_iastNN (i := 129) (v := 6) (by decide) (ks_set_same _ _ _) (by decide) (by decide) dX16_init_809 rfl ?_
  refine ks_dup dX16_init_810 rfl rfl ?_
  refine ks_sipush (x := nI 130) dX16_init_811 (by decide) rfl ?_
  refine ks_iconst (x := nI 4) dX16_init_814 (by decide) rfl ?_
  refine ks_iastNN (i := 130) (v := 4) (by decide) (ks_set_same _ _ _) (by decide) (by decide) dX16_init_815 rfl ?_
  refine ks_dup dX16_init_816 rfl rfl ?_
  refine ks_sipush (x := nI 131) dX16_init_817 (by decide) rfl ?_
  refine ks_iconst (x := nI 1) dX16_init_820 (by decide) rfl ?_
  refine ks_iastNN (i := 131) (v := 1) (by decide) (ks_set_same _ _ _) (by decide) (by decide) dX16_init_821 rfl ?_
  refine ks_dup dX16_init_822 rfl rfl ?_
  refine ks_sipush (x := nI 132) dX16_init_823 (by decide) rfl ?_
  refine ks_iconst (x := nI 3) dX16_init_826 (by decide) rfl ?_
  refine ks_iastNN (i := 132) (v := 3) (by decide) (ks_set_same _ _ _) (by decide) (by decide) dX16_init_827 rfl ?_
  refine ks_dup dX16_init_828 rfl rfl ?_
  refine ks_sipush (x := nI 133) dX16_init_829 (by decide) rfl ?_
  refine ks_bipush (x := nI 11) dX16_init_832 (by decide) rfl ?_
  refine ks_iastNN (i := 133) (v := 11) (by decide) (ks_set_same _ _ _) (by decide) (by decide) dX16_init_834 rfl ?_
  refine ks_dup dX16_init_835 rfl rfl ?_
  refine ks_sipush (x := nI 134) dX16_init_836 (by decide) rfl ?_
  refine ks_bipush (x := nI 15) dX16_init_839 (by decide) rfl ?_
  refine ks_iastNN (i := 134) (v := 15) (by decide) (ks_set_same _ _ _) (by decide) (by decide) dX16_init_841 rfl ?_
  refine ks_dup dX16_init_842 rfl rfl ?_
  refine ks_sipush (x := nI 135) dX16_init_843 (by decide) rfl ?_
  refine ks_iconst (x := nI 0) dX16_init_846 (by decide) rfl ?_
  refine ks_iastNN (i := 135) (v := 0) (by decide) (ks_set_same _ _ _) (by decide) (by decide) dX16_init_847 rfl ?_
  refine ks_dup dX16_init_848 rfl rfl ?_
  refine ks_sipush (x := nI 136) dX16_init_849 (by decide) rfl ?_
  refine ks_iconst (x := nI 5) dX16_init_852 (by decide) rfl ?_
  refine ks_iastNN (i := 136) (v := 5) (by decide) (ks_set_same _ _ _) (by decide) (by decide) dX16_init_853 rfl ?_
  refine ks_dup dX16_init_854 rfl rfl ?_
  refine ks_sipush (x := nI 137) dX16_init_855 (by decide) rfl ?_
  refine ks_bipush (x := nI 12) dX16_init_858 (by decide) rfl ?_
  refine ks_iastNN (i := 137) (v := 12) (by decide) (ks_set_same _ _ _) (by decide) (by decide) dX16_init_860 rfl ?_
  refine ks_dup dX16_init_861 rfl rfl ?_
  refine ks_sipush (x := nI 138) dX16_init_862 (by decide) rfl ?_
  refine ks_iconst (x := nI 2) dX16_init_865 (by decide) rfl ?_
  refine ks_iastNN (i := 138) (v := 2) (by decide) (ks_set_same _ _ _) (by decide) (by decide) dX16_init_866 rfl ?_
  refine ks_dup dX16_init_867 rfl rfl ?_
  refine ks_sipush (x := nI 139) dX16_init_868 (by decide) rfl ?_
  refine ks_bipush (x := nI 13) dX16_init_871 (by decide) rfl ?_
  refine ks_iastNN (i := 139) (v := 13) (by decide) (ks_set_same _ _ _) (by decide) (by decide) dX16_init_873 rfl ?_
  refine ks_nm (fun T7 e9 => ?_)
  have v7 : ks_up T6 T7 [300] := by rw [e9]; exact ks_upL (ks_upL (ks_upL (ks_upL (ks_upL (ks_upL (ks_upL (ks_upL (ks_upL (ks_upL (ks_upL (ks_upL (ks_upL (ks_upL (ks_upL (ks_upL (ks_upL (ks_upL (ks_upL (ks_up_set _ _ (List.mem_singleton.mpr rfl)) (List.mem_singleton.mpr rfl)) (List.mem_singleton.mpr rfl)) (List.mem_singleton.mpr rfl)) (List.mem_singleton.mpr rfl)) (List.mem_singleton.mpr rfl)) (List.mem_singleton.mpr rfl)) (List.mem_singleton.mpr rfl)) (List.mem_singleton.mpr rfl)) (List.mem_singleton.mpr rfl)) (List.mem_singleton.mpr rfl)) (List.mem_singleton.mpr rfl)) (List.mem_singleton.mpr rfl)) (List.mem_singleton.mpr rfl)) (List.mem_singleton.mpr rfl)) (List.mem_singleton.mpr rfl)) (List.mem_singleton.mpr rfl)) (List.mem_singleton.mpr rfl)) (List.mem_singleton.mpr rfl)) (List.mem_singleton.mpr rfl)
  have f7 : T7.2.2 300 = some (kN 160 (fil (fun _ => 0) (fl_O.take 140))) := by rw [e9]; exact ks_set_same _ _ _
  clear e9
  have u7 := u6.trans v7
  refine ks_dup dX16_init_874 rfl rfl ?_
  refine ks_sipush (x := nI 140) dX16_init_875 (by decide) rfl ?_
  refine ks_bipush (x := nI 9) dX16_init_878 (by decide) rfl ?_
  refine ks_iastNN (i := 140) (v := 9) (by decide) f7 (by decide) (by decide) dX16_init_880 rfl ?_
  refine ks_dup dX16_init_881 rfl rfl ?_
  refine ks_sipush (x := nI 141) dX16_init_882 (by decide) rfl ?_
  refine ks_bipush (x := nI 7) dX16_init_885 (by decide) rfl ?_
  refine ks_iastNN (i := 141) (v := 7) (by decide) (ks_set_same _ _ _) (by decide) (by decide) dX16_init_887 rfl ?_
  refine ks_dup dX16_init_888 rfl rfl ?_
  refine ks_sipush (x := nI 142) dX16_init_889 (by decide) rfl ?_
  refine ks_bipush (x := nI 10) dX16_init_892 (by decide) rfl ?_
  refine ks_iastNN (i := 142) (v := 10) (by decide) (ks_set_same _ _ _) (by decide) (by decide) dX16_init_894 rfl ?_
  refine ks_dup dX16_init_895 rfl rfl ?_
  refine ks_sipush (x := nI 143) dX16_init_896 (by decide) rfl ?_
  refine ks_bipush (x := nI 14) dX16_init_899 (by decide) rfl ?_
  refine ks_iastNN (i := 143) (v := 14) (by decide) (ks_set_same _ _ _) (by decide) (by decide) dX16_init_901 rfl ?_
  refine ks_dup dX16_init_902 rfl rfl ?_
  refine ks_sipush (x := nI 144) dX16_init_903 (by decide) rfl ?_
  refine ks_bipush (x := nI 12) dX16_init_906 (by decide) rfl ?_
  refine ks_iastNN (i := 144) (v := 12) (by decide) (ks_set_same _ _ _) (by decide) (by decide) dX16_init_908 rfl ?_
  refine ks_dup dX16_init_909 rfl rfl ?_
  refine ks_sipush (x := nI 145) dX16_init_910 (by decide) rfl ?_
  refine ks_bipush (x := nI 15) dX16_init_913 (by decide) rfl ?_
  refine ks_iastNN (i := 145) (v := 15) (by decide) (ks_set_same _ _ _) (by decide) (by decide) dX16_init_915 rfl ?_
  refine ks_dup dX16_init_916 rfl rfl ?_
  refine ks_sipush (x := nI 146) dX16_init_917 (by decide) rfl ?_
  refine ks_bipush (x := nI 10) dX16_init_920 (by decide) rfl ?_
  refine ks_iastNN (i := 146) (v := 10) (by decide) (ks_set_same _ _ _) (by decide) (by decide) dX16_init_922 rfl ?_
  refine ks_dup dX16_init_923 rfl rfl ?_
  refine ks_sipush (x := nI 147) dX16_init_924 (by decide) rfl ?_
  refine ks_iconst (x := nI 4) dX16_init_927 (by decide) rfl ?_
  refine ks_iastNN (i := 147) (v := 4) (by decide) (ks_set_same _ _ _) (by decide) (by decide) dX16_init_928 rfl ?_
  refine ks_dup dX16_init_929 rfl rfl ?_
  refine ks_sipush (x := nI 148) dX16_init_930 (by decide) rfl ?_
  refine ks_iconst (x := nI 1) dX16_init_933 (by decide) rfl ?_
  refine ks_iastNN (i := 148) (v := 1) (by decide) (ks_set_same _ _ _) (by decide) (by decide) dX16_init_934 rfl ?_
  refine ks_dup dX16_init_935 rfl rfl ?_
  refine ks_sipush (x := nI 149) dX16_init_936 (by decide) rfl ?_
  refine ks_iconst (x := nI 5) dX16_init_939 (by decide) rfl ?_
  refine ks_iastNN (i := 149) (v := 5) (by decide) (ks_set_same _ _ _) (by decide) (by decide) dX16_init_940 rfl ?_
  refine ks_dup dX16_init_941 rfl rfl ?_
  refine ks_sipush (x := nI 150) dX16_init_942 (by decide) rfl ?_
  refine ks_bipush (x := nI 8) dX16_init_945 (by decide) rfl ?_
  refine ks_iastNN (i := 150) (v := 8) (by decide) (ks_set_same _ _ _) (by decide) (by decide) dX16_init_947 rfl ?_
  refine ks_dup dX16_init_948 rfl rfl ?_
  refine ks_sipush (x := nI 151) dX16_init_949 (by decide) rfl ?_
  refine ks_bipush (x := nI 7) dX16_init_952 (by decide) rfl ?_
  refine ks_iastNN (i := 151) (v := 7) (by decide) (ks_set_same _ _ _) (by decide) (by decide) dX16_init_954 rfl ?_
  refine ks_dup dX16_init_955 rfl rfl ?_
  refine ks_sipush (x := nI 152) dX16_init_956 (by decide) rfl ?_
  refine ks_bipush (x := nI 6) dX16_init_959 (by decide) rfl ?_
  refine ks_iastNN (i := 152) (v := 6) (by decide) (ks_set_same _ _ _) (by decide) (by decide) dX16_init_961 rfl ?_
  refine ks_dup dX16_init_962 rfl rfl ?_
  refine ks_sipush (x := nI 153) dX16_init_963 (by decide) rfl ?_
  refine ks_iconst (x := nI 2) dX16_init_966 (by decide) rfl ?_
  refine ks_iastNN (i := 153) (v := 2) (by decide) (ks_set_same _ _ _) (by decide) (by decide) dX16_init_967 rfl ?_
  refine ks_dup dX16_init_968 rfl rfl ?_
  refine ks_sipush (x := nI 154) dX16_init_969 (by decide) rfl ?_
  refine ks_bipush (x := nI 13) dX16_init_972 (by decide) rfl ?_
  refine ks_iastNN (i := 154) (v := 13) (by decide) (ks_set_same _ _ _) (by decide) (by decide) dX16_init_974 rfl ?_
  refine ks_dup dX16_init_975 rfl rfl ?_
  refine ks_sipush (x := nI 155) dX16_init_976 (by decide) rfl ?_
  refine ks_bipush (x := nI 14) dX16_init_979 (by decide) rfl ?_
  refine ks_iastNN (i := 155) (v := 14) (by decide) (ks_set_same _ _ _) (by decide) (by decide) dX16_init_981 rfl ?_
  refine ks_dup dX16_init_982 rfl rfl ?_
  refine ks_sipush (x := nI 156) dX16_init_983 (by decide) rfl ?_
  refine ks_iconst (x := nI 0) dX16_init_986 (by decide) rfl ?_
  refine ks_iastNN (i := 156) (v := 0) (by decide) (ks_set_same _ _ _) (by decide) (by decide) dX16_init_987 rfl ?_
  refine ks_dup dX16_init_988 rfl rfl ?_
  refine ks_sipush (x := nI 157) dX16_init_989 (by decide) rfl ?_
  refine ks_iconst (x := nI 3) dX16_init_992 (by decide) rfl ?_
  refine ks_iastNN (i := 157) (v := 3) (by decide) (ks_set_same _ _ _) (by decide) (by decide) dX16_init_993 rfl ?_
  refine ks_dup dX16_init_994 rfl rfl ?_
  refine ks_sipush (x := nI 158) dX16_init_995 (by decide) rfl ?_
  refine ks_bipush (x := nI 9) dX16_init_998 (by decide) rfl ?_
  refine ks_iastNN (i := 158) (v := 9) (by decide) (ks_set_same _ _ _) (by decide) (by decide) dX16_init_1000 rfl ?_
  refine ks_dup dX16_init_1001 rfl rfl ?_
  refine ks_sipush (x := nI 159) dX16_init_1002 (by decide) rfl ?_
  refine ks_bipush (x := nI 11) dX16_init_1005 (by decide) rfl ?_
  refine ks_iastNN (i := 159) (v := 11) (by decide) (ks_set_same _ _ _) (by decide) (by decide) dX16_init_1007 rfl ?_
  refine ks_nm (fun T8 e9 => ?_)
  have v8 : ks_up T7 T8 [300] := by rw [e9]; exact ks_upL (ks_upL (ks_upL (ks_upL (ks_upL (ks_upL (ks_upL (ks_upL (ks_upL (ks_upL (ks_upL (ks_upL (ks_upL (ks_upL (ks_upL (ks_upL (ks_upL (ks_upL (ks_upL (ks_up_set _ _ (List.mem_singleton.mpr rfl)) (List.mem_singleton.mpr rfl)) (List.mem_singleton.mpr rfl)) (List.mem_singleton.mpr rfl)) (List.mem_singleton.mpr rfl)) (List.mem_singleton.mpr rfl)) (List.mem_singleton.mpr rfl)) (List.mem_singleton.mpr rfl)) (List.mem_singleton.mpr rfl)) (List.mem_singleton.mpr rfl)) (List.mem_singleton.mpr rfl)) (List.mem_singleton.mpr rfl)) (List.mem_singleton.mpr rfl)) (List.mem_singleton.mpr rfl)) (List.mem_singleton.mpr rfl)) (List.mem_singleton.mpr rfl)) (List.mem_singleton.mpr rfl)) (List.mem_singleton.mpr rfl)) (List.mem_singleton.mpr rfl)) (List.mem_singleton.mpr rfl)
  have f8 : T8.2.2 300 = some (kN 160 (fil (fun _ => 0) (fl_O.take 160))) := by rw [e9]; exact ks_set_same _ _ _
  clear e9
  have u8 := u7.trans v8
  refine hk _ u8 ?_
  rw [f8, show fl_O.take 160 = fl_O from by decide +kernel, fil_row (n := 160) (L := st_RIPE_ORDER) (by decide +kernel) (by decide +kernel)]
def fl_T : List (Nat × Nat) := [(0, 11), (1, 14), (2, 15), (3, 12), (4, 5), (5, 8), (6, 7), (7, 9), (8, 11), (9, 13), (10, 14), (11, 15), (12, 6), (13, 7), (14, 9), (15, 8), (16, 7), (17, 6), (18, 8), (19, 13), (20, 11), (21, 9), (22, 7), (23, 15), (24, 7), (25, 12), (26, 15), (27, 9), (28, 11), (29, 7), (30, 13), (31, 12), (32, 11), (33, 13), (34, 6), (35, 7), (36, 14), (37, 9), (38, 13), (39, 15), (40, 14), (41, 8), (42, 13), (43, 6), (44, 5), (45, 12), (46, 7), (47, 5), (48, 11), (49, 12), (50, 14), (51, 15), (52, 14), (53, 15), (54, 9), (55, 8), (56, 9), (57, 14), (58, 5), (59, 6), (60, 8), (61, 6), (62, 5), (63, 12), (64, 9), (65, 15), (66, 5), (67, 11), (68, 6), (69, 8), (70, 13), (71, 12), (72, 5), (73, 12), (74, 13), (75, 14), (76, 11), (77, 8), (78, 5), (79, 6), (80, 8), (81, 9), (82, 9), (83, 11), (84, 13), (85, 15), (86, 15), (87, 5), (88, 7), (89, 7), (90, 8), (91, 11), (92, 14), (93, 14), (94, 12), (95, 6), (96, 9), (97, 13), (98, 15), (99, 7), (100, 12), (101, 8), (102, 9), (103, 11), (104, 7), (105, 7), (106, 12), (107, 7), (108, 6), (109, 15), (110, 13), (111, 11), (112, 9), (113, 7), (114, 15), (115, 11), (116, 8), (117, 6), (118, 6), (119, 14), (120, 12), (121, 13), (122, 5), (123, 14), (124, 13), (125, 13), (126, 7), (127, 5), (128, 15), (129, 5), (130, 8), (131, 11), (132, 14), (133, 14), (134, 6), (135, 14), (136, 6), (137, 9), (138, 12), (139, 9), (140, 12), (141, 5), (142, 15), (143, 8), (144, 8), (145, 5), (146, 12), (147, 9), (148, 12), (149, 5), (150, 14), (151, 6), (152, 8), (153, 13), (154, 6), (155, 5), (156, 15), (157, 13), (158, 11), (159, 11)]
set_option maxRecDepth 100000 in
set_option maxHeartbeats 3200000 in
theorem l_inT {l : Launch} {G : ks_G} {d : Nat} {S : ks_S} (h9 : S.2.2 301 = some (kN 160 (fun _ => 0))) {P9 : Option Value → ks_S → Prop} (hk : ∀ S1 : ks_S, ks_up S S1 [301] → S1.2.2 301 = some (kI 160 (ks_row st_RIPE_TURNS)) → ks_X l G mX16_init d 1987 [(0, .ref 290)] [.ref 301, .ref 290] S1 P9) : ks_X l G mX16_init d 1017 [(0, .ref 290)] [.ref 301, .ref 290] S P9 := by
  have u0 : ks_up S S [301] := ks_up.rf _ _
  refine ks_dup dX16_init_1017 rfl rfl ?_
  refine ks_iconst (x := nI 0) dX16_init_1018 (by decide) rfl ?_
  refine ks_bipush (x := nI 11) dX16_init_1019 (by decide) rfl ?_
  refine ks_iastNN (i := 0) (v := 11) (by decide) h9 (by decide) (by decide) dX16_init_1021 rfl ?_
  refine ks_dup dX16_init_1022 rfl rfl ?_
  refine ks_iconst (x := nI 1) dX16_init_1023 (by decide) rfl ?_
  refine ks_bipush (x := nI 14) dX16_init_1024 (by decide) rfl ?_
  refine ks_iastNN (i := 1) (v := 14) (by decide) (ks_set_same _ _ _) (by decide) (by decide) dX16_init_1026 rfl ?_
  refine ks_dup dX16_init_1027 rfl rfl ?_
  refine ks_iconst (x := nI 2) dX16_init_1028 (by decide) rfl ?_
  refine ks_bipush (x := nI 15) dX16_init_1029 (by decide) rfl ?_
  refine ks_iastNN (i := 2) (v := 15) (by decide) (ks_set_same _ _ _) (by decide) (by decide) dX16_init_1031 rfl ?_
  refine ks_dup dX16_init_1032 rfl rfl ?_
  refine ks_iconst (x := nI 3) dX16_init_1033 (by decide) rfl ?_
  refine ks_bipush (x := nI 12) dX16_init_1034 (by decide) rfl ?_
  refine ks_iastNN (i := 3) (v := 12) (by decide) (ks_set_same _ _ _) (by decide) (by decide) dX16_init_1036 rfl ?_
  refine ks_dup dX16_init_1037 rfl rfl ?_
  refine ks_iconst (x := nI 4) dX16_init_1038 (by decide) rfl ?_
  refine ks_iconst (x := nI 5) dX16_init_1039 (by decide) rfl ?_
  refine ks_iastNN (i := 4) (v := 5) (by decide) (ks_set_same _ _ _) (by decide) (by decide) dX16_init_1040 rfl ?_
  refine ks_dup dX16_init_1041 rfl rfl ?_
  refine ks_iconst (x := nI 5) dX16_init_1042 (by decide) rfl ?_
  refine ks_bipush (x := nI 8) dX16_init_1043 (by decide) rfl ?_
  refine ks_iastNN (i := 5) (v := 8) (by decide) (ks_set_same _ _ _) (by decide) (by decide) dX16_init_1045 rfl ?_
  refine ks_dup dX16_init_1046 rfl rfl ?_
  refine ks_bipush (x := nI 6) dX16_init_1047 (by decide) rfl ?_
  refine ks_bipush (x := nI 7) dX16_init_1049 (by decide) rfl ?_
  refine ks_iastNN (i := 6) (v := 7) (by decide) (ks_set_same _ _ _) (by decide) (by decide) dX16_init_1051 rfl ?_
  refine ks_dup dX16_init_1052 rfl rfl ?_
  refine ks_bipush (x := nI 7) dX16_init_1053 (by decide) rfl ?_
  refine ks_bipush (x := nI 9) dX16_init_1055 (by decide) rfl ?_
  refine ks_iastNN (i := 7) (v := 9) (by decide) (ks_set_same _ _ _) (by decide) (by decide) dX16_init_1057 rfl ?_
  refine ks_dup dX16_init_1058 rfl rfl ?_
  refine ks_bipush (x := nI 8) dX16_init_1059 (by decide) rfl ?_
  refine ks_bipush (x := nI 11) dX16_init_1061 (by decide) rfl ?_
  refine ks_iastNN (i := 8) (v := 11) (by decide) (ks_set_same _ _ _) (by decide) (by decide) dX16_init_1063 rfl ?_
  refine ks_dup dX16_init_1064 rfl rfl ?_
  refine ks_bipush (x := nI 9) dX16_init_1065 (by decide) rfl ?_
  refine ks_bipush (x := nI 13) dX16_init_1067 (by decide) rfl ?_
  refine ks_iastNN (i := 9) (v := 13) (by decide) (ks_set_same _ _ _) (by decide) (by decide) dX16_init_1069 rfl ?_
  refine ks_dup dX16_init_1070 rfl rfl ?_
  refine ks_bipush (x := nI 10) dX16_init_1071 (by decide) rfl ?_
  refine ks_bipush (x := nI 14) dX16_init_1073 (by decide) rfl ?_
  refine ks_iastNN (i := 10) (v := 14) (by decide) (ks_set_same _ _ _) (by decide) (by decide) dX16_init_1075 rfl ?_
  refine ks_dup dX16_init_1076 rfl rfl ?_
  refine ks_bipush (x := nI 11) dX16_init_1077 (by decide) rfl ?_
  refine ks_bipush (x := nI 15) dX16_init_1079 (by decide) rfl ?_
  refine ks_iastNN (i := 11) (v := 15) (by decide) (ks_set_same _ _ _) (by decide) (by decide) dX16_init_1081 rfl ?_
  refine ks_dup dX16_init_1082 rfl rfl ?_
  refine ks_bipush (x := nI 12) dX16_init_1083 (by decide) rfl ?_
  refine ks_bipush (x := nI 6) dX16_init_1085 (by decide) rfl ?_
  refine ks_iastNN (i := 12) (v := 6) (by decide) (ks_set_same _ _ _) (by decide) (by decide) dX16_init_1087 rfl ?_
  refine ks_dup dX16_init_1088 rfl rfl ?_
  refine ks_bipush (x := nI 13) dX16_init_1089 (by decide) rfl ?_
  refine ks_bipush (x := nI 7) dX16_init_1091 (by decide) rfl ?_
  refine ks_iastNN (i := 13) (v := 7) (by decide) (ks_set_same _ _ _) (by decide) (by decide) dX16_init_1093 rfl ?_
  refine ks_dup dX16_init_1094 rfl rfl ?_
  refine ks_bipush (x := nI 14) dX16_init_1095 (by decide) rfl ?_
  refine ks_bipush (x := nI 9) dX16_init_1097 (by decide) rfl ?_
  refine ks_iastNN (i := 14) (v := 9) (by decide) (ks_set_same _ _ _) (by decide) (by decide) dX16_init_1099 rfl ?_
  refine ks_dup dX16_init_1100 rfl rfl ?_
  refine ks_bipush (x := nI 15) dX16_init_1101 (by decide) rfl ?_
  refine ks_bipush (x := nI 8) dX16_init_1103 (by decide) rfl ?_
  refine ks_iastNN (i := 15) (v := 8) (by decide) (ks_set_same _ _ _) (by decide) (by decide) dX16_init_1105 rfl ?_
  refine ks_dup dX16_init_1106 rfl rfl ?_
  refine ks_bipush (x := nI 16) dX16_init_1107 (by decide) rfl ?_
  refine ks_bipush (x := nI 7) dX16_init_1109 (by decide) rfl ?_
  refine ks_iastNN (i := 16) (v := 7) (by decide) (ks_set_same _ _ _) (by decide) (by decide) dX16_init_1111 rfl ?_
  refine ks_dup dX16_init_1112 rfl rfl ?_
  refine ks_bipush (x := nI 17) dX16_init_1113 (by decide) rfl ?_
  refine ks_bipush (x := nI 6) dX16_init_1115 (by decide) rfl ?_
  refine ks_iastNN (i := 17) (v := 6) (by decide) (ks_set_same _ _ _) (by decide) (by decide) dX16_init_1117 rfl ?_
  refine ks_dup dX16_init_1118 rfl rfl ?_
  refine ks_bipush (x := nI 18) dX16_init_1119 (by decide) rfl ?_
  refine ks_bipush (x := nI 8) dX16_init_1121 (by decide) rfl ?_
  refine ks_iastNN (i := 18) (v := 8) (by decide) (ks_set_same _ _ _) (by decide) (by decide) dX16_init_1123 rfl ?_
  refine ks_dup dX16_init_1124 rfl rfl ?_
  refine ks_bipush (x := nI 19) dX16_init_1125 (by decide) rfl ?_
  refine ks_bipush (x := nI 13) dX16_init_1127 (by decide) rfl ?_
  refine ks_iastNN (i := 19) (v := 13) (by decide) (ks_set_same _ _ _) (by decide) (by decide) dX16_init_1129 rfl ?_
  refine ks_nm (fun T1 e9 => ?_)
  have v1 : ks_up S T1 [301] := by rw [e9]; exact ks_upL (ks_upL (ks_upL (ks_upL (ks_upL (ks_upL (ks_upL (ks_upL (ks_upL (ks_upL (ks_upL (ks_upL (ks_upL (ks_upL (ks_upL (ks_upL (ks_upL (ks_upL (ks_upL (ks_up_set _ _ (List.mem_singleton.mpr rfl)) (List.mem_singleton.mpr rfl)) (List.mem_singleton.mpr rfl)) (List.mem_singleton.mpr rfl)) (List.mem_singleton.mpr rfl)) (List.mem_singleton.mpr rfl)) (List.mem_singleton.mpr rfl)) (List.mem_singleton.mpr rfl)) (List.mem_singleton.mpr rfl)) (List.mem_singleton.mpr rfl)) (List.mem_singleton.mpr rfl)) (List.mem_singleton.mpr rfl)) (List.mem_singleton.mpr rfl)) (List.mem_singleton.mpr rfl)) (List.mem_singleton.mpr rfl)) (List.mem_singleton.mpr rfl)) (List.mem_singleton.mpr rfl)) (List.mem_singleton.mpr rfl)) (List.mem_singleton.mpr rfl)) (List.mem_singleton.mpr rfl)
  have f1 : T1.2.2 301 = some (kN 160 (fil (fun _ => 0) (fl_T.take 20))) := by rw [e9]; exact ks_set_same _ _ _
  clear e9
  have u1 := u0.trans v1
  refine ks_dup dX16_init_1130 rfl rfl ?_
  refine ks_bipush (x := nI 20) dX16_init_1131 (by decide) rfl ?_
  refine ks_bipush (x := nI 11) dX16_init_1133 (by decide) rfl ?_
  refine ks_iastNN (i := 20) (v := 11) (by decide) f1 (by decide) (by decide) dX16_init_1135 rfl ?_
  refine ks_dup dX16_init_1136 rfl rfl ?_
  refine ks_bipush (x := nI 21) dX16_init_1137 (by decide) rfl ?_
  refine ks_bipush (x := nI 9) dX16_init_1139 (by decide) rfl ?_
  refine ks_iastNN (i := 21) (v := 9) (by decide) (ks_set_same _ _ _) (by decide) (by decide) dX16_init_1141 rfl ?_
  refine ks_dup dX16_init_1142 rfl rfl ?_
  refine ks_bipush (x := nI 22) dX16_init_1143 (by decide) rfl ?_
  refine ks_bipush (x := nI 7) dX16_init_1145 (by decide) rfl ?_
  refine ks_iastNN (i := 22) (v := 7) (by decide) (ks_set_same _ _ _) (by decide) (by decide) dX16_init_1147 rfl ?_
  refine ks_dup dX16_init_1148 rfl rfl ?_
  refine ks_bipush (x := nI 23) dX16_init_1149 (by decide) rfl ?_
  refine ks_bipush (x := nI 15) dX16_init_1151 (by decide) rfl ?_
  refine ks_iastNN (i := 23) (v := 15) (by decide) (ks_set_same _ _ _) (by decide) (by decide) dX16_init_1153 rfl ?_
  refine ks_dup dX16_init_1154 rfl rfl ?_
  refine ks_bipush (x := nI 24) dX16_init_1155 (by decide) rfl ?_
  refine ks_bipush (x := nI 7) dX16_init_1157 (by decide) rfl ?_
  refine ks_iastNN (i := 24) (v := 7) (by decide) (ks_set_same _ _ _) (by decide) (by decide) dX16_init_1159 rfl ?_
  refine ks_dup dX16_init_1160 rfl rfl ?_
  refine ks_bipush (x := nI 25) dX16_init_1161 (by decide) rfl ?_
  refine ks_bipush (x := nI 12) dX16_init_1163 (by decide) rfl ?_
  refine ks_iastNN (i := 25) (v := 12) (by decide) (ks_set_same _ _ _) (by decide) (by decide) dX16_init_1165 rfl ?_
  refine ks_dup dX16_init_1166 rfl rfl ?_
  refine ks_bipush (x := nI 26) dX16_init_1167 (by decide) rfl ?_
  refine ks_bipush (x := nI 15) dX16_init_1169 (by decide) rfl ?_
  refine ks_iastNN (i := 26) (v := 15) (by decide) (ks_set_same _ _ _) (by decide) (by decide) dX16_init_1171 rfl ?_
  refine ks_dup dX16_init_1172 rfl rfl ?_
  refine ks_bipush (x := nI 27) dX16_init_1173 (by decide) rfl ?_
  refine ks_bipush (x := nI 9) dX16_init_1175 (by decide) rfl ?_
  refine ks_iastNN (i := 27) (v := 9) (by decide) (ks_set_same _ _ _) (by decide) (by decide) dX16_init_1177 rfl ?_
  refine ks_dup dX16_init_1178 rfl rfl ?_
  refine ks_bipush (x := nI 28) dX16_init_1179 (by decide) rfl ?_
  refine ks_bipush (x := nI 11) dX16_init_1181 (by decide) rfl ?_
  refine ks_iastNN (i := 28) (v := 11) (by decide) (ks_set_same _ _ _) (by decide) (by decide) dX16_init_1183 rfl ?_
  refine ks_dup dX16_init_1184 rfl rfl ?_
  refine ks_bipush (x := nI 29) dX16_init_1185 (by decide) rfl ?_
  refine ks_bipush (x := nI 7) dX16_init_1187 (by decide) rfl ?_
  refine ks_iastNN (i := 29) (v := 7) (by decide) (ks_set_same _ _ _) (by decide) (by decide) dX16_init_1189 rfl ?_
  refine ks_dup dX16_init_1190 rfl rfl ?_
  refine ks_bipush (x := nI 30) dX16_init_1191 (by decide) rfl ?_
  refine ks_bipush (x := nI 13) dX16_init_1193 (by decide) rfl ?_
  refine ks_iastNN (i := 30) (v := 13) (by decide) (ks_set_same _ _ _) (by decide) (by decide) dX16_init_1195 rfl ?_
  refine ks_dup dX16_init_1196 rfl rfl ?_
  refine ks_bipush (x := nI 31) dX16_init_1197 (by decide) rfl ?_
  refine ks_bipush (x := nI 12) dX16_init_1199 (by decide) rfl ?_
  refine ks_iastNN (i := 31) (v := 12) (by decide) (ks_set_same _ _ _) (by decide) (by decide) dX16_init_1201 rfl ?_
  refine ks_dup dX16_init_1202 rfl rfl ?_
  refine ks_bipush (x := nI 32) dX16_init_1203 (by decide) rfl ?_
  refine ks_bipush (x := nI 11) dX16_init_1205 (by decide) rfl ?_
  refine ks_iastNN (i := 32) (v := 11) (by decide) (ks_set_same _ _ _) (by decide) (by decide) dX16_init_1207 rfl ?_
  refine ks_dup dX16_init_1208 rfl rfl ?_
  refine ks_bipush (x := nI 33) dX16_init_1209 (by decide) rfl ?_
  refine ks_bipush (x := nI 13) dX16_init_1211 (by decide) rfl ?_
  refine ks_iastNN (i := 33) (v := 13) (by decide) (ks_set_same _ _ _) (by decide) (by decide) dX16_init_1213 rfl ?_
  refine ks_dup dX16_init_1214 rfl rfl ?_
  refine ks_bipush (x := nI 34) dX16_init_1215 (by decide) rfl ?_
  refine ks_bipush (x := nI 6) dX16_init_1217 (by decide) rfl ?_
  refine ks_iastNN (i := 34) (v := 6) (by decide) (ks_set_same _ _ _) (by decide) (by decide) dX16_init_1219 rfl ?_
  refine ks_dup dX16_init_1220 rfl rfl ?_
  refine ks_bipush (x := nI 35) dX16_init_1221 (by decide) rfl ?_
  refine ks_bipush (x := nI 7) dX16_init_1223 (by decide) rfl ?_
  refine ks_iastNN (i := 35) (v := 7) (by decide) (ks_set_same _ _ _) (by decide) (by decide) dX16_init_1225 rfl ?_
  refine ks_dup dX16_init_1226 rfl rfl ?_
  refine ks_bipush (x := nI 36) dX16_init_1227 (by decide) rfl ?_
  refine ks_bipush (x := nI 14) dX16_init_1229 (by decide) rfl ?_
  refine ks_iastNN (i := 36) (v := 14) (by decide) (ks_set_same _ _ _) (by decide) (by decide) dX16_init_1231 rfl ?_
  refine ks_dup dX16_init_1232 rfl rfl ?_
  refine ks_bipush (x := nI 37) dX16_init_1233 (by decide) rfl ?_
  refine ks_bipush (x := nI 9) dX16_init_1235 (by decide) rfl ?_
  refine ks_iastNN (i := 37) (v := 9) (by decide) (ks_set_same _ _ _) (by decide) (by decide) dX16_init_1237 rfl ?_
  refine ks_dup dX16_init_1238 rfl rfl ?_
  refine ks_bipush (x := nI 38) dX16_init_1239 (by decide) rfl ?_
  refine ks_bipush (x := nI 13) dX16_init_1241 (by decide) rfl ?_
  refine ks_iastNN (i := 38) (v := 13) (by decide) (ks_set_same _ _ _) (by decide) (by decide) dX16_init_1243 rfl ?_
  refine ks_dup dX16_init_1244 rfl rfl ?_
  refine ks_bipush (x := nI 39) dX16_init_1245 (by decide) rfl ?_
  refine ks_bipush (x := nI 15) dX16_init_1247 (by decide) rfl ?_
  refine ks_iastNN (i := 39) (v := 15) (by decide) (ks_set_same _ _ _) (by decide) (by decide) dX16_init_1249 rfl ?_
  refine ks_nm (fun T2 e9 => ?_)
  have v2 : ks_up T1 T2 [301] := by rw [e9]; exact ks_upL (ks_upL (ks_upL (ks_upL (ks_upL (ks_upL (ks_upL (ks_upL (ks_upL (ks_upL (ks_upL (ks_upL (ks_upL (ks_upL (ks_upL (ks_upL (ks_upL (ks_upL (ks_upL (ks_up_set _ _ (List.mem_singleton.mpr rfl)) (List.mem_singleton.mpr rfl)) (List.mem_singleton.mpr rfl)) (List.mem_singleton.mpr rfl)) (List.mem_singleton.mpr rfl)) (List.mem_singleton.mpr rfl)) (List.mem_singleton.mpr rfl)) (List.mem_singleton.mpr rfl)) (List.mem_singleton.mpr rfl)) (List.mem_singleton.mpr rfl)) (List.mem_singleton.mpr rfl)) (List.mem_singleton.mpr rfl)) (List.mem_singleton.mpr rfl)) (List.mem_singleton.mpr rfl)) (List.mem_singleton.mpr rfl)) (List.mem_singleton.mpr rfl)) (List.mem_singleton.mpr rfl)) (List.mem_singleton.mpr rfl)) (List.mem_singleton.mpr rfl)) (List.mem_singleton.mpr rfl)
  have f2 : T2.2.2 301 = some (kN 160 (fil (fun _ => 0) (fl_T.take 40))) := by rw [e9]; exact ks_set_same _ _ _
  clear e9
  have u2 := u1.trans v2
  refine ks_dup dX16_init_1250 rfl rfl ?_
  refine ks_bipush (x := nI 40) dX16_init_1251 (by decide) rfl ?_
  refine ks_bipush (x := nI 14) dX16_init_1253 (by decide) rfl ?_
  refine ks_iastNN (i := 40) (v := 14) (by decide) f2 (by decide) (by decide) dX16_init_1255 rfl ?_
  refine ks_dup dX16_init_1256 rfl rfl ?_
  refine ks_bipush (x := nI 41) dX16_init_1257 (by decide) rfl ?_
  refine ks_bipush (x := nI 8) dX16_init_1259 (by decide) rfl ?_
  refine ks_iastNN (i := 41) (v := 8) (by decide) (ks_set_same _ _ _) (by decide) (by decide) dX16_init_1261 rfl ?_
  refine ks_dup dX16_init_1262 rfl rfl ?_
  refine ks_bipush (x := nI 42) dX16_init_1263 (by decide) rfl ?_
  refine ks_bipush (x := nI 13) dX16_init_1265 (by decide) rfl ?_
  refine ks_iastNN (i := 42) (v := 13) (by decide) (ks_set_same _ _ _) (by decide) (by decide) dX16_init_1267 rfl ?_
  refine ks_dup dX16_init_1268 rfl rfl ?_
  refine ks_bipush (x := nI 43) dX16_init_1269 (by decide) rfl ?_
  refine ks_bipush (x := nI 6) dX16_init_1271 (by decide) rfl ?_
  refine ks_iastNN (i := 43) (v := 6) (by decide) (ks_set_same _ _ _) (by decide) (by decide) dX16_init_1273 rfl ?_
  refine ks_dup dX16_init_1274 rfl rfl ?_
  refine ks_bipush (x := nI 44) dX16_init_1275 (by decide) rfl ?_
  refine ks_iconst (x := nI 5) dX16_init_1277 (by decide) rfl ?_
  refine ks_iastNN (i := 44) (v := 5) (by decide) (ks_set_same _ _ _) (by decide) (by decide) dX16_init_1278 rfl ?_
  refine ks_dup dX16_init_1279 rfl rfl ?_
  refine ks_bipush (x := nI 45) dX16_init_1280 (by decide) rfl ?_
  refine ks_bipush (x := nI 12) dX16_init_1282 (by decide) rfl ?_
  refine ks_iastNN (i := 45) (v := 12) (by decide) (ks_set_same _ _ _) (by decide) (by decide) dX16_init_1284 rfl ?_
  refine ks_dup dX16_init_1285 rfl rfl ?_
  refine ks_bipush (x := nI 46) dX16_init_1286 (by decide) rfl ?_
  refine ks_bipush (x := nI 7) dX16_init_1288 (by decide) rfl ?_
  refine ks_iastNN (i := 46) (v := 7) (by decide) (ks_set_same _ _ _) (by decide) (by decide) dX16_init_1290 rfl ?_
  refine ks_dup dX16_init_1291 rfl rfl ?_
  refine ks_bipush (x := nI 47) dX16_init_1292 (by decide) rfl ?_
  refine ks_iconst (x := nI 5) dX16_init_1294 (by decide) rfl ?_
  refine ks_iastNN (i := 47) (v := 5) (by decide) (ks_set_same _ _ _) (by decide) (by decide) dX16_init_1295 rfl ?_
  refine ks_dup dX16_init_1296 rfl rfl ?_
  refine ks_bipush (x := nI 48) dX16_init_1297 (by decide) rfl ?_
  refine ks_bipush (x := nI 11) dX16_init_1299 (by decide) rfl ?_
  refine ks_iastNN (i := 48) (v := 11) (by decide) (ks_set_same _ _ _) (by decide) (by decide) dX16_init_1301 rfl ?_
  refine ks_dup dX16_init_1302 rfl rfl ?_
  refine ks_bipush (x := nI 49) dX16_init_1303 (by decide) rfl ?_
  refine ks_bipush (x := nI 12) dX16_init_1305 (by decide) rfl ?_
  refine ks_iastNN (i := 49) (v := 12) (by decide) (ks_set_same _ _ _) (by decide) (by decide) dX16_init_1307 rfl ?_
  refine ks_dup dX16_init_1308 rfl rfl ?_
  refine ks_bipush (x := nI 50) dX16_init_1309 (by decide) rfl ?_
  refine ks_bipush (x := nI 14) dX16_init_1311 (by decide) rfl ?_
  refine ks_iastNN (i := 50) (v := 14) (by decide) (ks_set_same _ _ _) (by decide) (by decide) dX16_init_1313 rfl ?_
  refine ks_dup dX16_init_1314 rfl rfl ?_
  refine ks_bipush (x := nI 51) dX16_init_1315 (by decide) rfl ?_
  refine ks_bipush (x := nI 15) dX16_init_1317 (by decide) rfl ?_
  refine ks_iastNN (i := 51) (v := 15) (by decide) (ks_set_same _ _ _) (by decide) (by decide) dX16_init_1319 rfl ?_
  refine ks_dup dX16_init_1320 rfl rfl ?_
  refine ks_bipush (x := nI 52) dX16_init_1321 (by decide) rfl ?_
  refine ks_bipush (x := nI 14) dX16_init_1323 (by decide) rfl ?_
  refine ks_iastNN (i := 52) (v := 14) (by decide) (ks_set_same _ _ _) (by decide) (by decide) dX16_init_1325 rfl ?_
  refine ks_dup dX16_init_1326 rfl rfl ?_
  refine ks_bipush (x := nI 53) dX16_init_1327 (by decide) rfl ?_
  refine ks_bipush (x := nI 15) dX16_init_1329 (by decide) rfl ?_
  refine ks_iastNN (i := 53) (v := 15) (by decide) (ks_set_same _ _ _) (by decide) (by decide) dX16_init_1331 rfl ?_
  refine ks_dup dX16_init_1332 rfl rfl ?_
  refine ks_bipush (x := nI 54) dX16_init_1333 (by decide) rfl ?_
  refine ks_bipush (x := nI 9) dX16_init_1335 (by decide) rfl ?_
  refine ks_iastNN (i := 54) (v := 9) (by decide) (ks_set_same _ _ _) (by decide) (by decide) dX16_init_1337 rfl ?_
  refine ks_dup dX16_init_1338 rfl rfl ?_
  refine ks_bipush (x := nI 55) dX16_init_1339 (by decide) rfl ?_
  refine ks_bipush (x := nI 8) dX16_init_1341 (by decide) rfl ?_
  refine ks_iastNN (i := 55) (v := 8) (by decide) (ks_set_same _ _ _) (by decide) (by decide) dX16_init_1343 rfl ?_
  refine ks_dup dX16_init_1344 rfl rfl ?_
  refine ks_bipush (x := nI 56) dX16_init_1345 (by decide) rfl ?_
  refine ks_bipush (x := nI 9) dX16_init_1347 (by decide) rfl ?_
  refine ks_iastNN (i := 56) (v := 9) (by decide) (ks_set_same _ _ _) (by decide) (by decide) dX16_init_1349 rfl ?_
  refine ks_dup dX16_init_1350 rfl rfl ?_
  refine ks_bipush (x := nI 57) dX16_init_1351 (by decide) rfl ?_
  refine ks_bipush (x := nI 14) dX16_init_1353 (by decide) rfl ?_
  refine ks_iastNN (i := 57) (v := 14) (by decide) (ks_set_same _ _ _) (by decide) (by decide) dX16_init_1355 rfl ?_
  refine ks_dup dX16_init_1356 rfl rfl ?_
  refine ks_bipush (x := nI 58) dX16_init_1357 (by decide) rfl ?_
  refine ks_iconst (x := nI 5) dX16_init_1359 (by decide) rfl ?_
  refine ks_iastNN (i := 58) (v := 5) (by decide) (ks_set_same _ _ _) (by decide) (by decide) dX16_init_1360 rfl ?_
  refine ks_dup dX16_init_1361 rfl rfl ?_
  refine ks_bipush (x := nI 59) dX16_init_1362 (by decide) rfl ?_
  refine ks_bipush (x := nI 6) dX16_init_1364 (by decide) rfl ?_
  refine ks_iastNN (i := 59) (v := 6) (by decide) (ks_set_same _ _ _) (by decide) (by decide) dX16_init_1366 rfl ?_
  refine ks_nm (fun T3 e9 => ?_)
  have v3 : ks_up T2 T3 [301] := by rw [e9]; exact ks_upL (ks_upL (ks_upL (ks_upL (ks_upL (ks_upL (ks_upL (ks_upL (ks_upL (ks_upL (ks_upL (ks_upL (ks_upL (ks_upL (ks_upL (ks_upL (ks_upL (ks_upL (ks_upL (ks_up_set _ _ (List.mem_singleton.mpr rfl)) (List.mem_singleton.mpr rfl)) (List.mem_singleton.mpr rfl)) (List.mem_singleton.mpr rfl)) (List.mem_singleton.mpr rfl)) (List.mem_singleton.mpr rfl)) (List.mem_singleton.mpr rfl)) (List.mem_singleton.mpr rfl)) (List.mem_singleton.mpr rfl)) (List.mem_singleton.mpr rfl)) (List.mem_singleton.mpr rfl)) (List.mem_singleton.mpr rfl)) (List.mem_singleton.mpr rfl)) (List.mem_singleton.mpr rfl)) (List.mem_singleton.mpr rfl)) (List.mem_singleton.mpr rfl)) (List.mem_singleton.mpr rfl)) (List.mem_singleton.mpr rfl)) (List.mem_singleton.mpr rfl)) (List.mem_singleton.mpr rfl)
  have f3 : T3.2.2 301 = some (kN 160 (fil (fun _ => 0) (fl_T.take 60))) := by rw [e9]; exact ks_set_same _ _ _
  clear e9
  have u3 := u2.trans v3
  refine ks_dup dX16_init_1367 rfl rfl ?_
  refine ks_bipush (x := nI 60) dX16_init_1368 (by decide) rfl ?_
  refine ks_bipush (x := nI 8) dX16_init_1370 (by decide) rfl ?_
  refine ks_iastNN (i := 60) (v := 8) (by decide) f3 (by decide) (by decide) dX16_init_1372 rfl ?_
  refine ks_dup dX16_init_1373 rfl rfl ?_
  refine ks_bipush (x := nI 61) dX16_init_1374 (by decide) rfl ?_
  refine ks_bipush (x := nI 6) dX16_init_1376 (by decide) rfl ?_
  refine ks_iastNN (i := 61) (v := 6) (by decide) (ks_set_same _ _ _) (by decide) (by decide) dX16_init_1378 rfl ?_
  refine ks_dup dX16_init_1379 rfl rfl ?_
  refine ks_bipush (x := nI 62) dX16_init_1380 (by decide) rfl ?_
  refine ks_iconst (x := nI 5) dX16_init_1382 (by decide) rfl ?_
  refine ks_iastNN (i := 62) (v := 5) (by decide) (ks_set_same _ _ _) (by decide) (by decide) dX16_init_1383 rfl ?_
  refine ks_dup dX16_init_1384 rfl rfl ?_
  refine ks_bipush (x := nI 63) dX16_init_1385 (by decide) rfl ?_
  refine ks_bipush (x := nI 12) dX16_init_1387 (by decide) rfl ?_
  refine ks_iastNN (i := 63) (v := 12) (by decide) (ks_set_same _ _ _) (by decide) (by decide) dX16_init_1389 rfl ?_
  refine ks_dup dX16_init_1390 rfl rfl ?_
  refine ks_bipush (x := nI 64) dX16_init_1391 (by decide) rfl ?_
  refine ks_bipush (x := nI 9) dX16_init_1393 (by decide) rfl ?_
  refine ks_iastNN (i := 64) (v := 9) (by decide) (ks_set_same _ _ _) (by decide) (by decide) dX16_init_1395 rfl ?_
  refine ks_dup dX16_init_1396 rfl rfl ?_
  refine ks_bipush (x := nI 65) dX16_init_1397 (by decide) rfl ?_
  refine ks_bipush (x := nI 15) dX16_init_1399 (by decide) rfl ?_
  refine ks_iastNN (i := 65) (v := 15) (by decide) (ks_set_same _ _ _) (by decide) (by decide) dX16_init_1401 rfl ?_
  refine ks_dup dX16_init_1402 rfl rfl ?_
  refine ks_bipush (x := nI 66) dX16_init_1403 (by decide) rfl ?_
  refine ks_iconst (x := nI 5) dX16_init_1405 (by decide) rfl ?_
  refine ks_iastNN (i := 66) (v := 5) (by decide) (ks_set_same _ _ _) (by decide) (by decide) dX16_init_1406 rfl ?_
  refine ks_dup dX16_init_1407 rfl rfl ?_
  refine ks_bipush (x := nI 67) dX16_init_1408 (by decide) rfl ?_
  refine ks_bipush (x := nI 11) dX16_init_1410 (by decide) rfl ?_
  refine ks_iastNN (i := 67) (v := 11) (by decide) (ks_set_same _ _ _) (by decide) (by decide) dX16_init_1412 rfl ?_
  refine ks_dup dX16_init_1413 rfl rfl ?_
  refine ks_bipush (x := nI 68) dX16_init_1414 (by decide) rfl ?_
  refine ks_bipush (x := nI 6) dX16_init_1416 (by decide) rfl ?_
  refine ks_iastNN (i := 68) (v := 6) (by decide) (ks_set_same _ _ _) (by decide) (by decide) dX16_init_1418 rfl ?_
  refine ks_dup dX16_init_1419 rfl rfl ?_
  refine ks_bipush (x := nI 69) dX16_init_1420 (by decide) rfl ?_
  refine ks_bipush (x := nI 8) dX16_init_1422 (by decide) rfl ?_
  refine ks_iastNN (i := 69) (v := 8) (by decide) (ks_set_same _ _ _) (by decide) (by decide) dX16_init_1424 rfl ?_
  refine ks_dup dX16_init_1425 rfl rfl ?_
  refine ks_bipush (x := nI 70) dX16_init_1426 (by decide) rfl ?_
  refine ks_bipush (x := nI 13) dX16_init_1428 (by decide) rfl ?_
  refine ks_iastNN (i := 70) (v := 13) (by decide) (ks_set_same _ _ _) (by decide) (by decide) dX16_init_1430 rfl ?_
  refine ks_dup dX16_init_1431 rfl rfl ?_
  refine ks_bipush (x := nI 71) dX16_init_1432 (by decide) rfl ?_
  refine ks_bipush (x := nI 12) dX16_init_1434 (by decide) rfl ?_
  refine ks_iastNN (i := 71) (v := 12) (by decide) (ks_set_same _ _ _) (by decide) (by decide) dX16_init_1436 rfl ?_
  refine ks_dup dX16_init_1437 rfl rfl ?_
  refine ks_bipush (x := nI 72) dX16_init_1438 (by decide) rfl ?_
  refine ks_iconst (x := nI 5) dX16_init_1440 (by decide) rfl ?_
  refine ks_iastNN (i := 72) (v := 5) (by decide) (ks_set_same _ _ _) (by decide) (by decide) dX16_init_1441 rfl ?_
  refine ks_dup dX16_init_1442 rfl rfl ?_
  refine ks_bipush (x := nI 73) dX16_init_1443 (by decide) rfl ?_
  refine ks_bipush (x := nI 12) dX16_init_1445 (by decide) rfl ?_
  refine ks_iastNN (i := 73) (v := 12) (by decide) (ks_set_same _ _ _) (by decide) (by decide) dX16_init_1447 rfl ?_
  refine ks_dup dX16_init_1448 rfl rfl ?_
  refine ks_bipush (x := nI 74) dX16_init_1449 (by decide) rfl ?_
  refine ks_bipush (x := nI 13) dX16_init_1451 (by decide) rfl ?_
  refine ks_iastNN (i := 74) (v := 13) (by decide) (ks_set_same _ _ _) (by decide) (by decide) dX16_init_1453 rfl ?_
  refine ks_dup dX16_init_1454 rfl rfl ?_
  refine ks_bipush (x := nI 75) dX16_init_1455 (by decide) rfl ?_
  refine ks_bipush (x := nI 14) dX16_init_1457 (by decide) rfl ?_
  refine ks_iastNN (i := 75) (v := 14) (by decide) (ks_set_same _ _ _) (by decide) (by decide) dX16_init_1459 rfl ?_
  refine ks_dup dX16_init_1460 rfl rfl ?_
  refine ks_bipush (x := nI 76) dX16_init_1461 (by decide) rfl ?_
  refine ks_bipush (x := nI 11) dX16_init_1463 (by decide) rfl ?_
  refine ks_iastNN (i := 76) (v := 11) (by decide) (ks_set_same _ _ _) (by decide) (by decide) dX16_init_1465 rfl ?_
  refine ks_dup dX16_init_1466 rfl rfl ?_
  refine ks_bipush (x := nI 77) dX16_init_1467 (by decide) rfl ?_
  refine ks_bipush (x := nI 8) dX16_init_1469 (by decide) rfl ?_
  refine ks_iastNN (i := 77) (v := 8) (by decide) (ks_set_same _ _ _) (by decide) (by decide) dX16_init_1471 rfl ?_
  refine ks_dup dX16_init_1472 rfl rfl ?_
  refine ks_bipush (x := nI 78) dX16_init_1473 (by decide) rfl ?_
  refine ks_iconst (x := nI 5) dX16_init_1475 (by decide) rfl ?_
  refine ks_iastNN (i := 78) (v := 5) (by decide) (ks_set_same _ _ _) (by decide) (by decide) dX16_init_1476 rfl ?_
  refine ks_dup dX16_init_1477 rfl rfl ?_
  refine ks_bipush (x := nI 79) dX16_init_1478 (by decide) rfl ?_
  refine ks_bipush (x := nI 6) dX16_init_1480 (by decide) rfl ?_
  refine ks_iastNN (i := 79) (v := 6) (by decide) (ks_set_same _ _ _) (by decide) (by decide) dX16_init_1482 rfl ?_
  refine ks_nm (fun T4 e9 => ?_)
  have v4 : ks_up T3 T4 [301] := by rw [e9]; exact ks_upL (ks_upL (ks_upL (ks_upL (ks_upL (ks_upL (ks_upL (ks_upL (ks_upL (ks_upL (ks_upL (ks_upL (ks_upL (ks_upL (ks_upL (ks_upL (ks_upL (ks_upL (ks_upL (ks_up_set _ _ (List.mem_singleton.mpr rfl)) (List.mem_singleton.mpr rfl)) (List.mem_singleton.mpr rfl)) (List.mem_singleton.mpr rfl)) (List.mem_singleton.mpr rfl)) (List.mem_singleton.mpr rfl)) (List.mem_singleton.mpr rfl)) (List.mem_singleton.mpr rfl)) (List.mem_singleton.mpr rfl)) (List.mem_singleton.mpr rfl)) (List.mem_singleton.mpr rfl)) (List.mem_singleton.mpr rfl)) (List.mem_singleton.mpr rfl)) (List.mem_singleton.mpr rfl)) (List.mem_singleton.mpr rfl)) (List.mem_singleton.mpr rfl)) (List.mem_singleton.mpr rfl)) (List.mem_singleton.mpr rfl)) (List.mem_singleton.mpr rfl)) (List.mem_singleton.mpr rfl)
  have f4 : T4.2.2 301 = some (kN 160 (fil (fun _ => 0) (fl_T.take 80))) := by rw [e9]; exact ks_set_same _ _ _
  clear e9
  have u4 := u3.trans v4
  refine ks_dup dX16_init_1483 rfl rfl ?_
  refine ks_bipush (x := nI 80) dX16_init_1484 (by decide) rfl ?_
  refine ks_bipush (x := nI 8) dX16_init_1486 (by decide) rfl ?_
  refine ks_iastNN (i := 80) (v := 8) (by decide) f4 (by decide) (by decide) dX16_init_1488 rfl ?_
  refine ks_dup dX16_init_1489 rfl rfl ?_
  refine ks_bipush (x := nI 81) dX16_init_1490 (by decide) rfl ?_
  refine ks_bipush (x := nI 9) dX16_init_1492 (by decide) rfl ?_
  refine ks_iastNN (i := 81) (v := 9) (by decide) (ks_set_same _ _ _) (by decide) (by decide) dX16_init_1494 rfl ?_
  refine ks_dup dX16_init_1495 rfl rfl ?_
  refine ks_bipush (x := nI 82) dX16_init_1496 (by decide) rfl ?_
  refine ks_bipush (x := nI 9) dX16_init_1498 (by decide) rfl ?_
  refine ks_iastNN (i := 82) (v := 9) (by decide) (ks_set_same _ _ _) (by decide) (by decide) dX16_init_1500 rfl ?_
  refine ks_dup dX16_init_1501 rfl rfl ?_
  refine ks_bipush (x := nI 83) dX16_init_1502 (by decide) rfl ?_
  refine ks_bipush (x := nI 11) dX16_init_1504 (by decide) rfl ?_
  refine ks_iastNN (i := 83) (v := 11) (by decide) (ks_set_same _ _ _) (by decide) (by decide) dX16_init_1506 rfl ?_
  refine ks_dup dX16_init_1507 rfl rfl ?_
  refine ks_bipush (x := nI 84) dX16_init_1508 (by decide) rfl ?_
  refine ks_bipush (x := nI 13) dX16_init_1510 (by decide) rfl ?_
  refine ks_iastNN (i := 84) (v := 13) (by decide) (ks_set_same _ _ _) (by decide) (by decide) dX16_init_1512 rfl ?_
  refine ks_dup dX16_init_1513 rfl rfl ?_
  refine ks_bipush (x := nI 85) dX16_init_1514 (by decide) rfl ?_
  refine ks_bipush (x := nI 15) dX16_init_1516 (by decide) rfl ?_
  refine ks_iastNN (i := 85) (v := 15) (by decide) (ks_set_same _ _ _) (by decide) (by decide) dX16_init_1518 rfl ?_
  refine ks_dup dX16_init_1519 rfl rfl ?_
  refine ks_bipush (x := nI 86) dX16_init_1520 (by decide) rfl ?_
  refine ks_bipush (x := nI 15) dX16_init_1522 (by decide) rfl ?_
  refine ks_iastNN (i := 86) (v := 15) (by decide) (ks_set_same _ _ _) (by decide) (by decide) dX16_init_1524 rfl ?_
  refine ks_dup dX16_init_1525 rfl rfl ?_
  refine ks_bipush (x := nI 87) dX16_init_1526 (by decide) rfl ?_
  refine ks_iconst (x := nI 5) dX16_init_1528 (by decide) rfl ?_
  refine ks_iastNN (i := 87) (v := 5) (by decide) (ks_set_same _ _ _) (by decide) (by decide) dX16_init_1529 rfl ?_
  refine ks_dup dX16_init_1530 rfl rfl ?_
  refine ks_bipush (x := nI 88) dX16_init_1531 (by decide) rfl ?_
  refine ks_bipush (x := nI 7) dX16_init_1533 (by decide) rfl ?_
  refine ks_iastNN (i := 88) (v := 7) (by decide) (ks_set_same _ _ _) (by decide) (by decide) dX16_init_1535 rfl ?_
  refine ks_dup dX16_init_1536 rfl rfl ?_
  refine ks_bipush (x := nI 89) dX16_init_1537 (by decide) rfl ?_
  refine ks_bipush (x := nI 7) dX16_init_1539 (by decide) rfl ?_
  refine ks_iastNN (i := 89) (v := 7) (by decide) (ks_set_same _ _ _) (by decide) (by decide) dX16_init_1541 rfl ?_
  refine ks_dup dX16_init_1542 rfl rfl ?_
  refine ks_bipush (x := nI 90) dX16_init_1543 (by decide) rfl ?_
  refine ks_bipush (x := nI 8) dX16_init_1545 (by decide) rfl ?_
  refine ks_iastNN (i := 90) (v := 8) (by decide) (ks_set_same _ _ _) (by decide) (by decide) dX16_init_1547 rfl ?_
  refine ks_dup dX16_init_1548 rfl rfl ?_
  refine ks_bipush (x := nI 91) dX16_init_1549 (by decide) rfl ?_
  refine ks_bipush (x := nI 11) dX16_init_1551 (by decide) rfl ?_
  refine ks_iastNN (i := 91) (v := 11) (by decide) (ks_set_same _ _ _) (by decide) (by decide) dX16_init_1553 rfl ?_
  refine ks_dup dX16_init_1554 rfl rfl ?_
  refine ks_bipush (x := nI 92) dX16_init_1555 (by decide) rfl ?_
  refine ks_bipush (x := nI 14) dX16_init_1557 (by decide) rfl ?_
  refine ks_iastNN (i := 92) (v := 14) (by decide) (ks_set_same _ _ _) (by decide) (by decide) dX16_init_1559 rfl ?_
  refine ks_dup dX16_init_1560 rfl rfl ?_
  refine ks_bipush (x := nI 93) dX16_init_1561 (by decide) rfl ?_
  refine ks_bipush (x := nI 14) dX16_init_1563 (by decide) rfl ?_
  refine ks_iastNN (i := 93) (v := 14) (by decide) (ks_set_same _ _ _) (by decide) (by decide) dX16_init_1565 rfl ?_
  refine ks_dup dX16_init_1566 rfl rfl ?_
  refine ks_bipush (x := nI 94) dX16_init_1567 (by decide) rfl ?_
  refine ks_bipush (x := nI 12) dX16_init_1569 (by decide) rfl ?_
  refine ks_iastNN (i := 94) (v := 12) (by decide) (ks_set_same _ _ _) (by decide) (by decide) dX16_init_1571 rfl ?_
  refine ks_dup dX16_init_1572 rfl rfl ?_
  refine ks_bipush (x := nI 95) dX16_init_1573 (by decide) rfl ?_
  refine ks_bipush (x := nI 6) dX16_init_1575 (by decide) rfl ?_
  refine ks_iastNN (i := 95) (v := 6) (by decide) (ks_set_same _ _ _) (by decide) (by decide) dX16_init_1577 rfl ?_
  refine ks_dup dX16_init_1578 rfl rfl ?_
  refine ks_bipush (x := nI 96) dX16_init_1579 (by decide) rfl ?_
  refine ks_bipush (x := nI 9) dX16_init_1581 (by decide) rfl ?_
  refine ks_iastNN (i := 96) (v := 9) (by decide) (ks_set_same _ _ _) (by decide) (by decide) dX16_init_1583 rfl ?_
  refine ks_dup dX16_init_1584 rfl rfl ?_
  refine ks_bipush (x := nI 97) dX16_init_1585 (by decide) rfl ?_
  refine ks_bipush (x := nI 13) dX16_init_1587 (by decide) rfl ?_
  refine ks_iastNN (i := 97) (v := 13) (by decide) (ks_set_same _ _ _) (by decide) (by decide) dX16_init_1589 rfl ?_
  refine ks_dup dX16_init_1590 rfl rfl ?_
  refine ks_bipush (x := nI 98) dX16_init_1591 (by decide) rfl ?_
  refine ks_bipush (x := nI 15) dX16_init_1593 (by decide) rfl ?_
  refine ks_iastNN (i := 98) (v := 15) (by decide) (ks_set_same _ _ _) (by decide) (by decide) dX16_init_1595 rfl ?_
  refine ks_dup dX16_init_1596 rfl rfl ?_
  refine ks_bipush (x := nI 99) dX16_init_1597 (by decide) rfl ?_
  refine ks_bipush (x := nI 7) dX16_init_1599 (by decide) rfl ?_
  refine ks_iastNN (i := 99) (v := 7) (by decide) (ks_set_same _ _ _) (by decide) (by decide) dX16_init_1601 rfl ?_
  refine ks_nm (fun T5 e9 => ?_)
  have v5 : ks_up T4 T5 [301] := by rw [e9]; exact ks_upL (ks_upL (ks_upL (ks_upL (ks_upL (ks_upL (ks_upL (ks_upL (ks_upL (ks_upL (ks_upL (ks_upL (ks_upL (ks_upL (ks_upL (ks_upL (ks_upL (ks_upL (ks_upL (ks_up_set _ _ (List.mem_singleton.mpr rfl)) (List.mem_singleton.mpr rfl)) (List.mem_singleton.mpr rfl)) (List.mem_singleton.mpr rfl)) (List.mem_singleton.mpr rfl)) (List.mem_singleton.mpr rfl)) (List.mem_singleton.mpr rfl)) (List.mem_singleton.mpr rfl)) (List.mem_singleton.mpr rfl)) (List.mem_singleton.mpr rfl)) (List.mem_singleton.mpr rfl)) (List.mem_singleton.mpr rfl)) (List.mem_singleton.mpr rfl)) (List.mem_singleton.mpr rfl)) (List.mem_singleton.mpr rfl)) (List.mem_singleton.mpr rfl)) (List.mem_singleton.mpr rfl)) (List.mem_singleton.mpr rfl)) (List.mem_singleton.mpr rfl)) (List.mem_singleton.mpr rfl)
  have f5 : T5.2.2 301 = some (kN 160 (fil (fun _ => 0) (fl_T.take 100))) := by rw [e9]; exact ks_set_same _ _ _
  clear e9
  have u5 := u4.trans v5
  refine ks_dup dX16_init_1602 rfl rfl ?_
  refine ks_bipush (x := nI 100) dX16_init_1603 (by decide) rfl ?_
  refine ks_bipush (x := nI 12) dX16_init_1605 (by decide) rfl ?_
  refine ks_iastNN (i := 100) (v := 12) (by decide) f5 (by decide) (by decide) dX16_init_1607 rfl ?_
  refine ks_dup dX16_init_1608 rfl rfl ?_
  refine ks_bipush (x := nI 101) dX16_init_1609 (by decide) rfl ?_
  refine ks_bipush (x := nI 8) dX16_init_1611 (by decide) rfl ?_
  refine ks_iastNN (i := 101) (v := 8) (by decide) (ks_set_same _ _ _) (by decide) (by decide) dX16_init_1613 rfl ?_
  refine ks_dup dX16_init_1614 rfl rfl ?_
  refine ks_bipush (x := nI 102) dX16_init_1615 (by decide) rfl ?_
  refine ks_bipush (x := nI 9) dX16_init_1617 (by decide) rfl ?_
  refine ks_iastNN (i := 102) (v := 9) (by decide) (ks_set_same _ _ _) (by decide) (by decide) dX16_init_1619 rfl ?_
  refine ks_dup dX16_init_1620 rfl rfl ?_
  refine ks_bipush (x := nI 103) dX16_init_1621 (by decide) rfl ?_
  refine ks_bipush (x := nI 11) dX16_init_1623 (by decide) rfl ?_
  refine ks_iastNN (i := 103) (v := 11) (by decide) (ks_set_same _ _ _) (by decide) (by decide) dX16_init_1625 rfl ?_
  refine ks_dup dX16_init_1626 rfl rfl ?_
  refine ks_bipush (x := nI 104) dX16_init_1627 (by decide) rfl ?_
  refine ks_bipush (x := nI 7) dX16_init_1629 (by decide) rfl ?_
  refine ks_iastNN (i := 104) (v := 7) (by decide) (ks_set_same _ _ _) (by decide) (by decide) dX16_init_1631 rfl ?_
  refine ks_dup dX16_init_1632 rfl rfl ?_
  refine ks_bipush (x := nI 105) dX16_init_1633 (by decide) rfl ?_
  refine ks_bipush (x := nI 7) dX16_init_1635 (by decide) rfl ?_
  refine ks_iastNN (i := 105) (v := 7) (by decide) (ks_set_same _ _ _) (by decide) (by decide) dX16_init_1637 rfl ?_
  refine ks_dup dX16_init_1638 rfl rfl ?_
  refine ks_bipush (x := nI 106) dX16_init_1639 (by decide) rfl ?_
  refine ks_bipush (x := nI 12) dX16_init_1641 (by decide) rfl ?_
  refine ks_iastNN (i := 106) (v := 12) (by decide) (ks_set_same _ _ _) (by decide) (by decide) dX16_init_1643 rfl ?_
  refine ks_dup dX16_init_1644 rfl rfl ?_
  refine ks_bipush (x := nI 107) dX16_init_1645 (by decide) rfl ?_
  refine ks_bipush (x := nI 7) dX16_init_1647 (by decide) rfl ?_
  refine ks_iastNN (i := 107) (v := 7) (by decide) (ks_set_same _ _ _) (by decide) (by decide) dX16_init_1649 rfl ?_
  refine ks_dup dX16_init_1650 rfl rfl ?_
  refine ks_bipush (x := nI 108) dX16_init_1651 (by decide) rfl ?_
  refine ks_bipush (x := nI 6) dX16_init_1653 (by decide) rfl ?_
  refine ks_iastNN (i := 108) (v := 6) (by decide) (ks_set_same _ _ _) (by decide) (by decide) dX16_init_1655 rfl ?_
  refine ks_dup dX16_init_1656 rfl rfl ?_
  refine ks_bipush (x := nI 109) dX16_init_1657 (by decide) rfl ?_
  refine ks_bipush (x := nI 15) dX16_init_1659 (by decide) rfl ?_
  refine ks_iastNN (i := 109) (v := 15) (by decide) (ks_set_same _ _ _) (by decide) (by decide) dX16_init_1661 rfl ?_
  refine ks_dup dX16_init_1662 rfl rfl ?_
  refine ks_bipush (x := nI 110) dX16_init_1663 (by decide) rfl ?_
  refine ks_bipush (x := nI 13) dX16_init_1665 (by decide) rfl ?_
  refine ks_iastNN (i := 110) (v := 13) (by decide) (ks_set_same _ _ _) (by decide) (by decide) dX16_init_1667 rfl ?_
  refine ks_dup dX16_init_1668 rfl rfl ?_
  refine ks_bipush (x := nI 111) dX16_init_1669 (by decide) rfl ?_
  refine ks_bipush (x := nI 11) dX16_init_1671 (by decide) rfl ?_
  refine ks_iastNN (i := 111) (v := 11) (by decide) (ks_set_same _ _ _) (by decide) (by decide) dX16_init_1673 rfl ?_
  refine ks_dup dX16_init_1674 rfl rfl ?_
  refine ks_bipush (x := nI 112) dX16_init_1675 (by decide) rfl ?_
  refine ks_bipush (x := nI 9) dX16_init_1677 (by decide) rfl ?_
  refine ks_iastNN (i := 112) (v := 9) (by decide) (ks_set_same _ _ _) (by decide) (by decide) dX16_init_1679 rfl ?_
  refine ks_dup dX16_init_1680 rfl rfl ?_
  refine ks_bipush (x := nI 113) dX16_init_1681 (by decide) rfl ?_
  refine ks_bipush (x := nI 7) dX16_init_1683 (by decide) rfl ?_
  refine ks_iastNN (i := 113) (v := 7) (by decide) (ks_set_same _ _ _) (by decide) (by decide) dX16_init_1685 rfl ?_
  refine ks_dup dX16_init_1686 rfl rfl ?_
  refine ks_bipush (x := nI 114) dX16_init_1687 (by decide) rfl ?_
  refine ks_bipush (x := nI 15) dX16_init_1689 (by decide) rfl ?_
  refine ks_iastNN (i := 114) (v := 15) (by decide) (ks_set_same _ _ _) (by decide) (by decide) dX16_init_1691 rfl ?_
  refine ks_dup dX16_init_1692 rfl rfl ?_
  refine ks_bipush (x := nI 115) dX16_init_1693 (by decide) rfl ?_
  refine ks_bipush (x := nI 11) dX16_init_1695 (by decide) rfl ?_
  refine ks_iastNN (i := 115) (v := 11) (by decide) (ks_set_same _ _ _) (by decide) (by decide) dX16_init_1697 rfl ?_
  refine ks_dup dX16_init_1698 rfl rfl ?_
  refine ks_bipush (x := nI 116) dX16_init_1699 (by decide) rfl ?_
  refine ks_bipush (x := nI 8) dX16_init_1701 (by decide) rfl ?_
  refine ks_iastNN (i := 116) (v := 8) (by decide) (ks_set_same _ _ _) (by decide) (by decide) dX16_init_1703 rfl ?_
  refine ks_dup dX16_init_1704 rfl rfl ?_
  refine ks_bipush (x := nI 117) dX16_init_1705 (by decide) rfl ?_
  refine ks_bipush (x := nI 6) dX16_init_1707 (by decide) rfl ?_
  refine ks_iastNN (i := 117) (v := 6) (by decide) (ks_set_same _ _ _) (by decide) (by decide) dX16_init_1709 rfl ?_
  refine ks_dup dX16_init_1710 rfl rfl ?_
  refine ks_bipush (x := nI 118) dX16_init_1711 (by decide) rfl ?_
  refine ks_bipush (x := nI 6) dX16_init_1713 (by decide) rfl ?_
  refine ks_iastNN (i := 118) (v := 6) (by decide) (ks_set_same _ _ _) (by decide) (by decide) dX16_init_1715 rfl ?_
  refine ks_dup dX16_init_1716 rfl rfl ?_
  refine ks_bipush (x := nI 119) dX16_init_1717 (by decide) rfl ?_
  refine ks_bipush (x := nI 14) dX16_init_1719 (by decide) rfl ?_
  refine ks_iastNN (i := 119) (v := 14) (by decide) (ks_set_same _ _ _) (by decide) (by decide) dX16_init_1721 rfl ?_
  refine ks_nm (fun T6 e9 => ?_)
  have v6 : ks_up T5 T6 [301] := by rw [e9]; exact ks_upL (ks_upL (ks_upL (ks_upL (ks_upL (ks_upL (ks_upL (ks_upL (ks_upL (ks_upL (ks_upL (ks_upL (ks_upL (ks_upL (ks_upL (ks_upL (ks_upL (ks_upL (ks_upL (ks_up_set _ _ (List.mem_singleton.mpr rfl)) (List.mem_singleton.mpr rfl)) (List.mem_singleton.mpr rfl)) (List.mem_singleton.mpr rfl)) (List.mem_singleton.mpr rfl)) (List.mem_singleton.mpr rfl)) (List.mem_singleton.mpr rfl)) (List.mem_singleton.mpr rfl)) (List.mem_singleton.mpr rfl)) (List.mem_singleton.mpr rfl)) (List.mem_singleton.mpr rfl)) (List.mem_singleton.mpr rfl)) (List.mem_singleton.mpr rfl)) (List.mem_singleton.mpr rfl)) (List.mem_singleton.mpr rfl)) (List.mem_singleton.mpr rfl)) (List.mem_singleton.mpr rfl)) (List.mem_singleton.mpr rfl)) (List.mem_singleton.mpr rfl)) (List.mem_singleton.mpr rfl)
  have f6 : T6.2.2 301 = some (kN 160 (fil (fun _ => 0) (fl_T.take 120))) := by rw [e9]; exact ks_set_same _ _ _
  clear e9
  have u6 := u5.trans v6
  refine ks_dup dX16_init_1722 rfl rfl ?_
  refine ks_bipush (x := nI 120) dX16_init_1723 (by decide) rfl ?_
  refine ks_bipush (x := nI 12) dX16_init_1725 (by decide) rfl ?_
  refine ks_iastNN (i := 120) (v := 12) (by decide) f6 (by decide) (by decide) dX16_init_1727 rfl ?_
  refine ks_dup dX16_init_1728 rfl rfl ?_
  refine ks_bipush (x := nI 121) dX16_init_1729 (by decide) rfl ?_
  refine ks_bipush (x := nI 13) dX16_init_1731 (by decide) rfl ?_
  refine ks_iastNN (i := 121) (v := 13) (by decide) (ks_set_same _ _ _) (by decide) (by decide) dX16_init_1733 rfl ?_
  refine ks_dup dX16_init_1734 rfl rfl ?_
  refine ks_bipush (x := nI 122) dX16_init_1735 (by decide) rfl ?_
  refine ks_iconst (x := nI 5) dX16_init_1737 (by decide) rfl ?_
  refine ks_iastNN (i := 122) (v := 5) (by decide) (ks_set_same _ _ _) (by decide) (by decide) dX16_init_1738 rfl ?_
  refine ks_dup dX16_init_1739 rfl rfl ?_
  refine ks_bipush (x := nI 123) dX16_init_1740 (by decide) rfl ?_
  refine ks_bipush (x := nI 14) dX16_init_1742 (by decide) rfl ?_
  refine ks_iastNN (i := 123) (v := 14) (by decide) (ks_set_same _ _ _) (by decide) (by decide) dX16_init_1744 rfl ?_
  refine ks_dup dX16_init_1745 rfl rfl ?_
  refine ks_bipush (x := nI 124) dX16_init_1746 (by decide) rfl ?_
  refine ks_bipush (x := nI 13) dX16_init_1748 (by decide) rfl ?_
  refine ks_iastNN (i := 124) (v := 13) (by decide) (ks_set_same _ _ _) (by decide) (by decide) dX16_init_1750 rfl ?_
  refine ks_dup dX16_init_1751 rfl rfl ?_
  refine ks_bipush (x := nI 125) dX16_init_1752 (by decide) rfl ?_
  refine ks_bipush (x := nI 13) dX16_init_1754 (by decide) rfl ?_
  refine ks_iastNN (i := 125) (v := 13) (by decide) (ks_set_same _ _ _) (by decide) (by decide) dX16_init_1756 rfl ?_
  refine ks_dup dX16_init_1757 rfl rfl ?_
  refine ks_bipush (x := nI 126) dX16_init_1758 (by decide) rfl ?_
  refine ks_bipush (x := nI 7) dX16_init_1760 (by decide) rfl ?_
  refine ks_iastNN (i := 126) (v := 7) (by decide) (ks_set_same _ _ _) (by decide) (by decide) dX16_init_1762 rfl ?_
  refine ks_dup dX16_init_1763 rfl rfl ?_
  refine ks_bipush (x := nI 127) dX16_init_1764 (by decide) rfl ?_
  refine ks_iconst (x := nI 5) dX16_init_1766 (by decide) rfl ?_
  refine ks_iastNN (i := 127) (v := 5) (by decide) (ks_set_same _ _ _) (by decide) (by decide) dX16_init_1767 rfl ?_
  refine ks_dup dX16_init_1768 rfl rfl ?_
  refine ks_sipush (x := nI 128) dX16_init_1769 (by decide) rfl ?_
  refine ks_bipush (x := nI 15) dX16_init_1772 (by decide) rfl ?_
  refine ks_iastNN (i := 128) (v := 15) (by decide) (ks_set_same _ _ _) (by decide) (by decide) dX16_init_1774 rfl ?_
  refine ks_dup dX16_init_1775 rfl rfl ?_
  refine ks_sipush (x := nI 129) dX16_init_1776 (by decide) rfl ?_
  refine ks_iconst (x := nI 5) dX16_init_1779 (by decide) rfl ?_
  refine ks_iastNN (i := 129) (v := 5) (by decide) (ks_set_same _ _ _) (by decide) (by decide) dX16_init_1780 rfl ?_
  refine ks_dup dX16_init_1781 rfl rfl ?_
  refine ks_sipush (x := nI 130) dX16_init_1782 (by decide) rfl ?_
  refine ks_bipush (x := nI 8) dX16_init_1785 (by decide) rfl ?_
  refine ks_iastNN (i := 130) (v := 8) (by decide) (ks_set_same _ _ _) (by decide) (by decide) dX16_init_1787 rfl ?_
  refine ks_dup dX16_init_1788 rfl rfl ?_
  refine ks_sipush (x := nI 131) dX16_init_1789 (by decide) rfl ?_
  refine ks_bipush (x := nI 11) dX16_init_1792 (by decide) rfl ?_
  refine ks_iastNN (i := 131) (v := 11) (by decide) (ks_set_same _ _ _) (by decide) (by decide) dX16_init_1794 rfl ?_
  refine ks_dup dX16_init_1795 rfl rfl ?_
  refine ks_sipush (x := nI 132) dX16_init_1796 (by decide) rfl ?_
  refine ks_bipush (x := nI 14) dX16_init_1799 (by decide) rfl ?_
  refine ks_iastNN (i := 132) (v := 14) (by decide) (ks_set_same _ _ _) (by decide) (by decide) dX16_init_1801 rfl ?_
  refine ks_dup dX16_init_1802 rfl rfl ?_
  refine ks_sipush (x := nI 133) dX16_init_1803 (by decide) rfl ?_
  refine ks_bipush (x := nI 14) dX16_init_1806 (by decide) rfl ?_
  refine ks_iastNN (i := 133) (v := 14) (by decide) (ks_set_same _ _ _) (by decide) (by decide) dX16_init_1808 rfl ?_
  refine ks_dup dX16_init_1809 rfl rfl ?_
  refine ks_sipush (x := nI 134) dX16_init_1810 (by decide) rfl ?_
  refine ks_bipush (x := nI 6) dX16_init_1813 (by decide) rfl ?_
  refine ks_iastNN (i := 134) (v := 6) (by decide) (ks_set_same _ _ _) (by decide) (by decide) dX16_init_1815 rfl ?_
  refine ks_dup dX16_init_1816 rfl rfl ?_
  refine ks_sipush (x := nI 135) dX16_init_1817 (by decide) rfl ?_
  refine ks_bipush (x := nI 14) dX16_init_1820 (by decide) rfl ?_
  refine ks_iastNN (i := 135) (v := 14) (by decide) (ks_set_same _ _ _) (by decide) (by decide) dX16_init_1822 rfl ?_
  refine ks_dup dX16_init_1823 rfl rfl ?_
  refine ks_sipush (x := nI 136) dX16_init_1824 (by decide) rfl ?_
  refine ks_bipush (x := nI 6) dX16_init_1827 (by decide) rfl ?_
  refine ks_iastNN (i := 136) (v := 6) (by decide) (ks_set_same _ _ _) (by decide) (by decide) dX16_init_1829 rfl ?_
  refine ks_dup dX16_init_1830 rfl rfl ?_
  refine ks_sipush (x := nI 137) dX16_init_1831 (by decide) rfl ?_
  refine ks_bipush (x := nI 9) dX16_init_1834 (by decide) rfl ?_
  refine ks_iastNN (i := 137) (v := 9) (by decide) (ks_set_same _ _ _) (by decide) (by decide) dX16_init_1836 rfl ?_
  refine ks_dup dX16_init_1837 rfl rfl ?_
  refine ks_sipush (x := nI 138) dX16_init_1838 (by decide) rfl ?_
  refine ks_bipush (x := nI 12) dX16_init_1841 (by decide) rfl ?_
  refine ks_iastNN (i := 138) (v := 12) (by decide) (ks_set_same _ _ _) (by decide) (by decide) dX16_init_1843 rfl ?_
  refine ks_dup dX16_init_1844 rfl rfl ?_
  refine ks_sipush (x := nI 139) dX16_init_1845 (by decide) rfl ?_
  refine ks_bipush (x := nI 9) dX16_init_1848 (by decide) rfl ?_
  refine ks_iastNN (i := 139) (v := 9) (by decide) (ks_set_same _ _ _) (by decide) (by decide) dX16_init_1850 rfl ?_
  refine ks_nm (fun T7 e9 => ?_)
  have v7 : ks_up T6 T7 [301] := by rw [e9]; exact ks_upL (ks_upL (ks_upL (ks_upL (ks_upL (ks_upL (ks_upL (ks_upL (ks_upL (ks_upL (ks_upL (ks_upL (ks_upL (ks_upL (ks_upL (ks_upL (ks_upL (ks_upL (ks_upL (ks_up_set _ _ (List.mem_singleton.mpr rfl)) (List.mem_singleton.mpr rfl)) (List.mem_singleton.mpr rfl)) (List.mem_singleton.mpr rfl)) (List.mem_singleton.mpr rfl)) (List.mem_singleton.mpr rfl)) (List.mem_singleton.mpr rfl)) (List.mem_singleton.mpr rfl)) (List.mem_singleton.mpr rfl)) (List.mem_singleton.mpr rfl)) (List.mem_singleton.mpr rfl)) (List.mem_singleton.mpr rfl)) (List.mem_singleton.mpr rfl)) (List.mem_singleton.mpr rfl)) (List.mem_singleton.mpr rfl)) (List.mem_singleton.mpr rfl)) (List.mem_singleton.mpr rfl)) (List.mem_singleton.mpr rfl)) (List.mem_singleton.mpr rfl)) (List.mem_singleton.mpr rfl)
  have f7 : T7.2.2 301 = some (kN 160 (fil (fun _ => 0) (fl_T.take 140))) := by rw [e9]; exact ks_set_same _ _ _
  clear e9
  have u7 := u6.trans v7
  refine ks_dup dX16_init_1851 rfl rfl ?_
  refine ks_sipush (x := nI 140) dX16_init_1852 (by decide) rfl ?_
  refine ks_bipush (x := nI 12) dX16_init_1855 (by decide) rfl ?_
  refine ks_iastNN (i := 140) (v := 12) (by decide) f7 (by decide) (by decide) dX16_init_1857 rfl ?_
  refine ks_dup dX16_init_1858 rfl rfl ?_
  refine ks_sipush (x := nI 141) dX16_init_1859 (by decide) rfl ?_
  refine ks_iconst (x := nI 5) dX16_init_1862 (by decide) rfl ?_
  refine ks_iastNN (i := 141) (v := 5) (by decide) (ks_set_same _ _ _) (by decide) (by decide) dX16_init_1863 rfl ?_
  refine ks_dup dX16_init_1864 rfl rfl ?_
  refine ks_sipush (x := nI 142) dX16_init_1865 (by decide) rfl ?_
  refine ks_bipush (x := nI 15) dX16_init_1868 (by decide) rfl ?_
  refine ks_iastNN (i := 142) (v := 15) (by decide) (ks_set_same _ _ _) (by decide) (by decide) dX16_init_1870 rfl ?_
  refine ks_dup dX16_init_1871 rfl rfl ?_
  refine ks_sipush (x := nI 143) dX16_init_1872 (by decide) rfl ?_
  refine ks_bipush (x := nI 8) dX16_init_1875 (by decide) rfl ?_
  refine ks_iastNN (i := 143) (v := 8) (by decide) (ks_set_same _ _ _) (by decide) (by decide) dX16_init_1877 rfl ?_
  refine ks_dup dX16_init_1878 rfl rfl ?_
  refine ks_sipush (x := nI 144) dX16_init_1879 (by decide) rfl ?_
  refine ks_bipush (x := nI 8) dX16_init_1882 (by decide) rfl ?_
  refine ks_iastNN (i := 144) (v := 8) (by decide) (ks_set_same _ _ _) (by decide) (by decide) dX16_init_1884 rfl ?_
  refine ks_dup dX16_init_1885 rfl rfl ?_
  refine ks_sipush (x := nI 145) dX16_init_1886 (by decide) rfl ?_
  refine ks_iconst (x := nI 5) dX16_init_1889 (by decide) rfl ?_
  refine ks_iastNN (i := 145) (v := 5) (by decide) (ks_set_same _ _ _) (by decide) (by decide) dX16_init_1890 rfl ?_
  refine ks_dup dX16_init_1891 rfl rfl ?_
  refine ks_sipush (x := nI 146) dX16_init_1892 (by decide) rfl ?_
  refine ks_bipush (x := nI 12) dX16_init_1895 (by decide) rfl ?_
  refine ks_iastNN (i := 146) (v := 12) (by decide) (ks_set_same _ _ _) (by decide) (by decide) dX16_init_1897 rfl ?_
  refine ks_dup dX16_init_1898 rfl rfl ?_
  refine ks_sipush (x := nI 147) dX16_init_1899 (by decide) rfl ?_
  refine ks_bipush (x := nI 9) dX16_init_1902 (by decide) rfl ?_
  refine ks_iastNN (i := 147) (v := 9) (by decide) (ks_set_same _ _ _) (by decide) (by decide) dX16_init_1904 rfl ?_
  refine ks_dup dX16_init_1905 rfl rfl ?_
  refine ks_sipush (x := nI 148) dX16_init_1906 (by decide) rfl ?_
  refine ks_bipush (x := nI 12) dX16_init_1909 (by decide) rfl ?_
  refine ks_iastNN (i := 148) (v := 12) (by decide) (ks_set_same _ _ _) (by decide) (by decide) dX16_init_1911 rfl ?_
  refine ks_dup dX16_init_1912 rfl rfl ?_
  refine ks_sipush (x := nI 149) dX16_init_1913 (by decide) rfl ?_
  refine ks_iconst (x := nI 5) dX16_init_1916 (by decide) rfl ?_
  refine ks_iastNN (i := 149) (v := 5) (by decide) (ks_set_same _ _ _) (by decide) (by decide) dX16_init_1917 rfl ?_
  refine ks_dup dX16_init_1918 rfl rfl ?_
  refine ks_sipush (x := nI 150) dX16_init_1919 (by decide) rfl ?_
  refine ks_bipush (x := nI 14) dX16_init_1922 (by decide) rfl ?_
  refine ks_iastNN (i := 150) (v := 14) (by decide) (ks_set_same _ _ _) (by decide) (by decide) dX16_init_1924 rfl ?_
  refine ks_dup dX16_init_1925 rfl rfl ?_
  refine ks_sipush (x := nI 151) dX16_init_1926 (by decide) rfl ?_
  refine ks_bipush (x := nI 6) dX16_init_1929 (by decide) rfl ?_
  refine ks_iastNN (i := 151) (v := 6) (by decide) (ks_set_same _ _ _) (by decide) (by decide) dX16_init_1931 rfl ?_
  refine ks_dup dX16_init_1932 rfl rfl ?_
  refine ks_sipush (x := nI 152) dX16_init_1933 (by decide) rfl ?_
  refine ks_bipush (x := nI 8) dX16_init_1936 (by decide) rfl ?_
  refine ks_iastNN (i := 152) (v := 8) (by decide) (ks_set_same _ _ _) (by decide) (by decide) dX16_init_1938 rfl ?_
  refine ks_dup dX16_init_1939 rfl rfl ?_
  refine ks_sipush (x := nI 153) dX16_init_1940 (by decide) rfl ?_
  refine ks_bipush (x := nI 13) dX16_init_1943 (by decide) rfl ?_
  refine ks_iastNN (i := 153) (v := 13) (by decide) (ks_set_same _ _ _) (by decide) (by decide) dX16_init_1945 rfl ?_
  refine ks_dup dX16_init_1946 rfl rfl ?_
  refine ks_sipush (x := nI 154) dX16_init_1947 (by decide) rfl ?_
  refine ks_bipush (x := nI 6) dX16_init_1950 (by decide) rfl ?_
  refine ks_iastNN (i := 154) (v := 6) (by decide) (ks_set_same _ _ _) (by decide) (by decide) dX16_init_1952 rfl ?_
  refine ks_dup dX16_init_1953 rfl rfl ?_
  refine ks_sipush (x := nI 155) dX16_init_1954 (by decide) rfl ?_
  refine ks_iconst (x := nI 5) dX16_init_1957 (by decide) rfl ?_
  refine ks_iastNN (i := 155) (v := 5) (by decide) (ks_set_same _ _ _) (by decide) (by decide) dX16_init_1958 rfl ?_
  refine ks_dup dX16_init_1959 rfl rfl ?_
  refine ks_sipush (x := nI 156) dX16_init_1960 (by decide) rfl ?_
  refine ks_bipush (x := nI 15) dX16_init_1963 (by decide) rfl ?_
  refine ks_iastNN (i := 156) (v := 15) (by decide) (ks_set_same _ _ _) (by decide) (by decide) dX16_init_1965 rfl ?_
  refine ks_dup dX16_init_1966 rfl rfl ?_
  refine ks_sipush (x := nI 157) dX16_init_1967 (by decide) rfl ?_
  refine ks_bipush (x := nI 13) dX16_init_1970 (by decide) rfl ?_
  refine ks_iastNN (i := 157) (v := 13) (by decide) (ks_set_same _ _ _) (by decide) (by decide) dX16_init_1972 rfl ?_
  refine ks_dup dX16_init_1973 rfl rfl ?_
  refine ks_sipush (x := nI 158) dX16_init_1974 (by decide) rfl ?_
  refine ks_bipush (x := nI 11) dX16_init_1977 (by decide) rfl ?_
  refine ks_iastNN (i := 158) (v := 11) (by decide) (ks_set_same _ _ _) (by decide) (by decide) dX16_init_1979 rfl ?_
  refine ks_dup dX16_init_1980 rfl rfl ?_
  refine ks_sipush (x := nI 159) dX16_init_1981 (by decide) rfl ?_
  refine ks_bipush (x := nI 11) dX16_init_1984 (by decide) rfl ?_
  refine ks_iastNN (i := 159) (v := 11) (by decide) (ks_set_same _ _ _) (by decide) (by decide) dX16_init_1986 rfl ?_
  refine ks_nm (fun T8 e9 => ?_)
  have v8 : ks_up T7 T8 [301] := by rw [e9]; exact ks_upL (ks_upL (ks_upL (ks_upL (ks_upL (ks_upL (ks_upL (ks_upL (ks_upL (ks_upL (ks_upL (ks_upL (ks_upL (ks_upL (ks_upL (ks_upL (ks_upL (ks_upL (ks_upL (ks_up_set _ _ (List.mem_singleton.mpr rfl)) (List.mem_singleton.mpr rfl)) (List.mem_singleton.mpr rfl)) (List.mem_singleton.mpr rfl)) (List.mem_singleton.mpr rfl)) (List.mem_singleton.mpr rfl)) (List.mem_singleton.mpr rfl)) (List.mem_singleton.mpr rfl)) (List.mem_singleton.mpr rfl)) (List.mem_singleton.mpr rfl)) (List.mem_singleton.mpr rfl)) (List.mem_singleton.mpr rfl)) (List.mem_singleton.mpr rfl)) (List.mem_singleton.mpr rfl)) (List.mem_singleton.mpr rfl)) (List.mem_singleton.mpr rfl)) (List.mem_singleton.mpr rfl)) (List.mem_singleton.mpr rfl)) (List.mem_singleton.mpr rfl)) (List.mem_singleton.mpr rfl)
  have f8 : T8.2.2 301 = some (kN 160 (fil (fun _ => 0) (fl_T.take 160))) := by rw [e9]; exact ks_set_same _ _ _
  clear e9
  have u8 := u7.trans v8
  refine hk _ u8 ?_
  rw [f8, show fl_T.take 160 = fl_T from by decide +kernel, fil_row (n := 160) (L := st_RIPE_TURNS) (by decide +kernel) (by decide +kernel)]

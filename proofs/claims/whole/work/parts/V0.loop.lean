/-! THE LAW: its loop -/
/-- a long of two ints of the script -/
def lJ (a b : Int32) : Int64 := (a.toInt64 <<< ((nI 32).toInt64 &&& 63)) ||| (b.toInt64 &&& lN 4294967295)
theorem sub6 {L : Nat} (h : L ≤ 3072) : (nI L - nI 6).toInt = (L : Int) - 6 := by
  have h1 : (nI L).toInt = L := nI_tI9 (by omega)
  have h2 : (nI 6).toInt = 6 := by decide
  rw [Int32.toInt_sub, h1, h2]
  exact Int.bmod_eq_of_le (by omega) (by omega)
theorem msk31 (x : Int32) : ∃ j, j < 32 ∧ x &&& nI 31 = nI j := by
  refine ⟨(x &&& nI 31).toBitVec.toNat, ?_, ?_⟩
  · rw [Int32.toBitVec_and, BitVec.toNat_and]
    exact Nat.lt_of_le_of_lt Nat.and_le_right (by decide)
  · apply Int32.toBitVec_inj.mp
    show (x &&& nI 31).toBitVec = BitVec.ofNat 32 (x &&& nI 31).toBitVec.toNat
    rw [BitVec.ofNat_toNat]
    simp
set_option maxRecDepth 100000 in
set_option maxHeartbeats 800000 in
theorem l_l_feed {l : Launch} {G : ks_G} {hh : KH} {K : lwK} {o c L : Nat} {xs : Nat → Int32} {S : ks_S} {P9 : Option Value → ks_S → Prop} (htr : l.stackTraces = false) (hc : c ≤ 512)  (hsc : hh.2 = (L + 1, xs)) (hL : L ≤ 3072) (hi : 6 * c + 6 ≤ L) (hI : lwI K o c S) (hk : ∀ S', lwI K o (c + 1) S' → ks_L l G hh mL_law 18 1411 [(0, .ref ks_sc), (1, .ref 0), (2, .ref 290), (3, .ref o), (4, .int (nI (6 * c)))] [] S' P9) : ks_L l G hh mL_law 18 128 [(0, .ref ks_sc), (1, .ref 0), (2, .ref 290), (3, .ref o), (4, .int (nI (6 * c)))] [] S P9 := by
  refine kl_aload_n dL_law_128 rfl rfl ?_
  refine kl_aload_n dL_law_129 rfl rfl ?_
  refine kl_iload dL_law_130 rfl rfl ?_
  refine kl_iconst (x := nI 1) dL_law_132 (by decide) rfl ?_
  refine kl_addN dL_law_133 rfl ?_
  refine kl_scA (i := 6 * c + 1) hsc rfl (by omega) (by omega) dL_law_134 rfl ?_
  refine kl_aload_n dL_law_135 rfl rfl ?_
  refine kl_iload dL_law_136 rfl rfl ?_
  refine kl_iconst (x := nI 2) dL_law_138 (by decide) rfl ?_
  refine kl_addN dL_law_139 rfl ?_
  refine kl_scA (i := 6 * c + 2) hsc rfl (by omega) (by omega) dL_law_140 rfl ?_
  refine kl_aload_n dL_law_141 rfl rfl ?_
  refine kl_iload dL_law_142 rfl rfl ?_
  refine kl_iconst (x := nI 3) dL_law_144 (by decide) rfl ?_
  refine kl_addN dL_law_145 rfl ?_
  refine kl_scA (i := 6 * c + 3) hsc rfl (by omega) (by omega) dL_law_146 rfl ?_
  refine kl_aload_n dL_law_147 rfl rfl ?_
  refine kl_iload dL_law_148 rfl rfl ?_
  refine kl_iconst (x := nI 4) dL_law_150 (by decide) rfl ?_
  refine kl_addN dL_law_151 rfl ?_
  refine kl_scA (i := 6 * c + 4) hsc rfl (by omega) (by omega) dL_law_152 rfl ?_
  refine kl_aload_n dL_law_153 rfl rfl ?_
  refine kl_iload dL_law_154 rfl rfl ?_
  refine kl_iconst (x := nI 5) dL_law_156 (by decide) rfl ?_
  refine kl_addN dL_law_157 rfl ?_
  refine kl_scA (i := 6 * c + 5) hsc rfl (by omega) (by omega) dL_law_158 rfl ?_
  refine kl_aload_n dL_law_159 rfl rfl ?_
  obtain ⟨k, Q, hk4, hA, hB⟩ := op_feed (l := l) (G := G) htr hc (x1 := xs (6 * c + 1)) (x2 := xs (6 * c + 2)) (x3 := xs (6 * c + 3)) (x4 := xs (6 * c + 4)) (x5 := xs (6 * c + 5))  hI
  refine kl_callH (n := 7) (M' := mL_feed) hA kx_1115 kx_1116 kx_0 kx_1117 (by decide +kernel) rfl (by decide) (Nat.le_of_ble_eq_true rfl) rfl dL_law_160 rfl (fun z1 S1 y1 => ?_)
  obtain ⟨rfl, q1⟩ := y1
  obtain ⟨⟨V1, o1⟩, hB⟩ := hB S1 q1
  refine kl_istore dL_law_163 (by decide) rfl ?_
  refine kl_sub [(5, _), (0, _), (1, _), (2, _), (3, _), (4, _)] rfl ?_
  refine kl_aload_n dL_law_165 rfl rfl ?_
  refine kl_aload_n dL_law_166 rfl rfl ?_
  refine kl_iload dL_law_167 rfl rfl ?_
  refine kl_iconst (x := nI 1) dL_law_169 (by decide) rfl ?_
  refine kl_addN dL_law_170 rfl ?_
  refine kl_scA (i := 6 * c + 1) hsc rfl (by omega) (by omega) dL_law_171 rfl ?_
  refine kl_aload_n dL_law_172 rfl rfl ?_
  refine kl_iload dL_law_173 rfl rfl ?_
  refine kl_iconst (x := nI 2) dL_law_175 (by decide) rfl ?_
  refine kl_addN dL_law_176 rfl ?_
  refine kl_scA (i := 6 * c + 2) hsc rfl (by omega) (by omega) dL_law_177 rfl ?_
  refine kl_aload_n dL_law_178 rfl rfl ?_
  refine kl_iload dL_law_179 rfl rfl ?_
  refine kl_iconst (x := nI 3) dL_law_181 (by decide) rfl ?_
  refine kl_addN dL_law_182 rfl ?_
  refine kl_scA (i := 6 * c + 3) hsc rfl (by omega) (by omega) dL_law_183 rfl ?_
  refine kl_aload_n dL_law_184 rfl rfl ?_
  refine kl_iload dL_law_185 rfl rfl ?_
  refine kl_iconst (x := nI 4) dL_law_187 (by decide) rfl ?_
  refine kl_addN dL_law_188 rfl ?_
  refine kl_scA (i := 6 * c + 4) hsc rfl (by omega) (by omega) dL_law_189 rfl ?_
  refine kl_aload_n dL_law_190 rfl rfl ?_
  refine kl_iload dL_law_191 rfl rfl ?_
  refine kl_iconst (x := nI 5) dL_law_193 (by decide) rfl ?_
  refine kl_addN dL_law_194 rfl ?_
  refine kl_scA (i := 6 * c + 5) hsc rfl (by omega) (by omega) dL_law_195 rfl ?_
  refine kl_callV (n := 5) (M' := mX16_feed) hB o1 cl_X16 rfl kx_2730 kx_2731 kx_2732 kx_30 kx_2733 (by decide +kernel) rfl (by decide) (Nat.le_of_ble_eq_true rfl) rfl dL_law_196 rfl (fun z2 S2 y2 => ?_)
  obtain ⟨w2, V2, f2, rfl, o2, v2, ho2, hv2, hI2⟩ := y2
  refine kl_istore dL_law_199 (by decide) rfl ?_
  refine kl_sub [(6, _), (5, _), (0, _), (1, _), (2, _), (3, _), (4, _)] rfl ?_
  refine kl_aload_n dL_law_201 rfl rfl ?_
  refine kl_callV (n := 0) (M' := mX16_thrown) (c_md_thrown (d := 17) o2 v2) o2 cl_X16 rfl kx_2726 kx_2727 kx_2728 kx_30 kx_2729 (by decide +kernel) rfl (by decide) (Nat.le_of_ble_eq_true rfl) rfl dL_law_202 rfl (fun z3 S3 y3 => ?_)
  obtain ⟨rfl, e3⟩ := y3
  subst e3
  refine kl_iload dL_law_205 rfl rfl ?_
  refine kl_icmp_eq (tgt := 212) dL_law_207 (by decide) rfl (fun _ => ?_) (fun h => absurd rfl h)
  refine kl_iload dL_law_212 rfl rfl ?_
  refine kl_if_neN (tgt := 229) (by omega) dL_law_214 (by decide) rfl (fun h => ?_) (fun h => ?_)
  · refine kl_goto (tgt := 1411) dL_law_229 (by decide) ?_
    refine kl_sub [(0, _), (1, _), (2, _), (3, _), (4, _)] rfl (hk S3 hI2)
  · refine kl_aload_n dL_law_217 rfl rfl ?_
    refine kl_iconst (x := nI 0) dL_law_218 (by decide) rfl ?_
    refine kl_laldN (i := 0) ho2 rfl (by decide) (by decide) dL_law_219 rfl ?_
    refine kl_iload dL_law_220 rfl rfl ?_
    refine kl_i2l dL_law_222 rfl ?_
    refine kl_lif_eq (tgt := 229) dL_law_223 rfl dL_law_224 (by decide) rfl (fun _ => ?_) (fun h9 => absurd (hv2 h) h9)
    refine kl_goto (tgt := 1411) dL_law_229 (by decide) ?_
    refine kl_sub [(0, _), (1, _), (2, _), (3, _), (4, _)] rfl (hk S3 hI2)
set_option maxRecDepth 100000 in
set_option maxHeartbeats 800000 in
theorem l_l_end {l : Launch} {G : ks_G} {hh : KH} {K : lwK} {o c L : Nat} {xs : Nat → Int32} {S : ks_S} {P9 : Option Value → ks_S → Prop} (htr : l.stackTraces = false) (hc : c ≤ 512)  (hsc : hh.2 = (L + 1, xs)) (hL : L ≤ 3072) (hi : 6 * c + 6 ≤ L) (hI : lwI K o c S) (hk : ∀ S', lwI K o (c + 1) S' → ks_L l G hh mL_law 18 1411 [(0, .ref ks_sc), (1, .ref 0), (2, .ref 290), (3, .ref o), (4, .int (nI (6 * c)))] [] S' P9) : ks_L l G hh mL_law 18 232 [(0, .ref ks_sc), (1, .ref 0), (2, .ref 290), (3, .ref o), (4, .int (nI (6 * c)))] [] S P9 := by
  refine kl_aload_n dL_law_232 rfl rfl ?_
  refine kl_aload_n dL_law_233 rfl rfl ?_
  refine kl_iload dL_law_234 rfl rfl ?_
  refine kl_iconst (x := nI 1) dL_law_236 (by decide) rfl ?_
  refine kl_addN dL_law_237 rfl ?_
  refine kl_scA (i := 6 * c + 1) hsc rfl (by omega) (by omega) dL_law_238 rfl ?_
  refine kl_aload_n dL_law_239 rfl rfl ?_
  obtain ⟨k, Q, hk4, hA, hB⟩ := op_end (l := l) (G := G) htr hc (x := xs (6 * c + 1))  hI
  refine kl_callH (n := 3) (M' := mL_end) hA kx_1151 kx_1152 kx_0 kx_1153 (by decide +kernel) rfl (by decide) (Nat.le_of_ble_eq_true rfl) rfl dL_law_240 rfl (fun z1 S1 y1 => ?_)
  obtain ⟨rfl, q1⟩ := y1
  obtain ⟨⟨V1, o1⟩, hB⟩ := hB S1 q1
  refine kl_istore dL_law_243 (by decide) rfl ?_
  refine kl_sub [(5, _), (0, _), (1, _), (2, _), (3, _), (4, _)] rfl ?_
  refine kl_aload_n dL_law_245 rfl rfl ?_
  refine kl_aload_n dL_law_246 rfl rfl ?_
  refine kl_iload dL_law_247 rfl rfl ?_
  refine kl_iconst (x := nI 1) dL_law_249 (by decide) rfl ?_
  refine kl_addN dL_law_250 rfl ?_
  refine kl_scA (i := 6 * c + 1) hsc rfl (by omega) (by omega) dL_law_251 rfl ?_
  refine kl_callV (n := 1) (M' := mX16_end) hB o1 cl_X16 rfl kx_2742 kx_2743 kx_2744 kx_30 kx_2745 (by decide +kernel) rfl (by decide) (Nat.le_of_ble_eq_true rfl) rfl dL_law_252 rfl (fun z2 S2 y2 => ?_)
  obtain ⟨w2, V2, f2, rfl, o2, v2, ho2, hv2, hI2⟩ := y2
  refine kl_istore dL_law_255 (by decide) rfl ?_
  refine kl_sub [(6, _), (5, _), (0, _), (1, _), (2, _), (3, _), (4, _)] rfl ?_
  refine kl_aload_n dL_law_257 rfl rfl ?_
  refine kl_callV (n := 0) (M' := mX16_thrown) (c_md_thrown (d := 17) o2 v2) o2 cl_X16 rfl kx_2726 kx_2727 kx_2728 kx_30 kx_2729 (by decide +kernel) rfl (by decide) (Nat.le_of_ble_eq_true rfl) rfl dL_law_258 rfl (fun z3 S3 y3 => ?_)
  obtain ⟨rfl, e3⟩ := y3
  subst e3
  refine kl_iload dL_law_261 rfl rfl ?_
  refine kl_icmp_eq (tgt := 268) dL_law_263 (by decide) rfl (fun _ => ?_) (fun h => absurd rfl h)
  refine kl_iload dL_law_268 rfl rfl ?_
  refine kl_if_neN (tgt := 285) (by omega) dL_law_270 (by decide) rfl (fun h => ?_) (fun h => ?_)
  · refine kl_goto (tgt := 1411) dL_law_285 (by decide) ?_
    refine kl_sub [(0, _), (1, _), (2, _), (3, _), (4, _)] rfl (hk S3 hI2)
  · refine kl_aload_n dL_law_273 rfl rfl ?_
    refine kl_iconst (x := nI 0) dL_law_274 (by decide) rfl ?_
    refine kl_laldN (i := 0) ho2 rfl (by decide) (by decide) dL_law_275 rfl ?_
    refine kl_iload dL_law_276 rfl rfl ?_
    refine kl_i2l dL_law_278 rfl ?_
    refine kl_lif_eq (tgt := 285) dL_law_279 rfl dL_law_280 (by decide) rfl (fun _ => ?_) (fun h9 => absurd (hv2 h) h9)
    refine kl_goto (tgt := 1411) dL_law_285 (by decide) ?_
    refine kl_sub [(0, _), (1, _), (2, _), (3, _), (4, _)] rfl (hk S3 hI2)
set_option maxRecDepth 100000 in
set_option maxHeartbeats 800000 in
theorem l_l_patch {l : Launch} {G : ks_G} {hh : KH} {K : lwK} {o c L : Nat} {xs : Nat → Int32} {S : ks_S} {P9 : Option Value → ks_S → Prop} (htr : l.stackTraces = false) (hc : c ≤ 512)  (hsc : hh.2 = (L + 1, xs)) (hL : L ≤ 3072) (hi : 6 * c + 6 ≤ L) (hI : lwI K o c S) (hk : ∀ S', lwI K o (c + 1) S' → ks_L l G hh mL_law 18 1411 [(0, .ref ks_sc), (1, .ref 0), (2, .ref 290), (3, .ref o), (4, .int (nI (6 * c)))] [] S' P9) : ks_L l G hh mL_law 18 288 [(0, .ref ks_sc), (1, .ref 0), (2, .ref 290), (3, .ref o), (4, .int (nI (6 * c)))] [] S P9 := by
  refine kl_aload_n dL_law_288 rfl rfl ?_
  refine kl_aload_n dL_law_289 rfl rfl ?_
  refine kl_iload dL_law_290 rfl rfl ?_
  refine kl_iconst (x := nI 1) dL_law_292 (by decide) rfl ?_
  refine kl_addN dL_law_293 rfl ?_
  refine kl_scA (i := 6 * c + 1) hsc rfl (by omega) (by omega) dL_law_294 rfl ?_
  refine kl_aload_n dL_law_295 rfl rfl ?_
  refine kl_iload dL_law_296 rfl rfl ?_
  refine kl_iconst (x := nI 2) dL_law_298 (by decide) rfl ?_
  refine kl_addN dL_law_299 rfl ?_
  refine kl_scA (i := 6 * c + 2) hsc rfl (by omega) (by omega) dL_law_300 rfl ?_
  refine kl_aload_n dL_law_301 rfl rfl ?_
  obtain ⟨k, Q, hk4, hA, hB⟩ := op_patch (l := l) (G := G) htr hc (x := xs (6 * c + 1)) (v := xs (6 * c + 2))  hI
  refine kl_callH (n := 4) (M' := mL_patch) hA kx_1164 kx_1165 kx_0 kx_1166 (by decide +kernel) rfl (by decide) (Nat.le_of_ble_eq_true rfl) rfl dL_law_302 rfl (fun z1 S1 y1 => ?_)
  obtain ⟨rfl, q1⟩ := y1
  obtain ⟨⟨V1, o1⟩, hB⟩ := hB S1 q1
  refine kl_istore dL_law_305 (by decide) rfl ?_
  refine kl_sub [(5, _), (0, _), (1, _), (2, _), (3, _), (4, _)] rfl ?_
  refine kl_aload_n dL_law_307 rfl rfl ?_
  refine kl_aload_n dL_law_308 rfl rfl ?_
  refine kl_iload dL_law_309 rfl rfl ?_
  refine kl_iconst (x := nI 1) dL_law_311 (by decide) rfl ?_
  refine kl_addN dL_law_312 rfl ?_
  refine kl_scA (i := 6 * c + 1) hsc rfl (by omega) (by omega) dL_law_313 rfl ?_
  refine kl_aload_n dL_law_314 rfl rfl ?_
  refine kl_iload dL_law_315 rfl rfl ?_
  refine kl_iconst (x := nI 2) dL_law_317 (by decide) rfl ?_
  refine kl_addN dL_law_318 rfl ?_
  refine kl_scA (i := 6 * c + 2) hsc rfl (by omega) (by omega) dL_law_319 rfl ?_
  refine kl_callV (n := 2) (M' := mX16_patch) hB o1 cl_X16 rfl kx_2746 kx_2747 kx_2748 kx_30 kx_2749 (by decide +kernel) rfl (by decide) (Nat.le_of_ble_eq_true rfl) rfl dL_law_320 rfl (fun z2 S2 y2 => ?_)
  obtain ⟨w2, V2, f2, rfl, o2, v2, ho2, hv2, hI2⟩ := y2
  refine kl_istore dL_law_323 (by decide) rfl ?_
  refine kl_sub [(6, _), (5, _), (0, _), (1, _), (2, _), (3, _), (4, _)] rfl ?_
  refine kl_aload_n dL_law_325 rfl rfl ?_
  refine kl_callV (n := 0) (M' := mX16_thrown) (c_md_thrown (d := 17) o2 v2) o2 cl_X16 rfl kx_2726 kx_2727 kx_2728 kx_30 kx_2729 (by decide +kernel) rfl (by decide) (Nat.le_of_ble_eq_true rfl) rfl dL_law_326 rfl (fun z3 S3 y3 => ?_)
  obtain ⟨rfl, e3⟩ := y3
  subst e3
  refine kl_iload dL_law_329 rfl rfl ?_
  refine kl_icmp_eq (tgt := 336) dL_law_331 (by decide) rfl (fun _ => ?_) (fun h => absurd rfl h)
  refine kl_iload dL_law_336 rfl rfl ?_
  refine kl_if_neN (tgt := 353) (by omega) dL_law_338 (by decide) rfl (fun h => ?_) (fun h => ?_)
  · refine kl_goto (tgt := 1411) dL_law_353 (by decide) ?_
    refine kl_sub [(0, _), (1, _), (2, _), (3, _), (4, _)] rfl (hk S3 hI2)
  · refine kl_aload_n dL_law_341 rfl rfl ?_
    refine kl_iconst (x := nI 0) dL_law_342 (by decide) rfl ?_
    refine kl_laldN (i := 0) ho2 rfl (by decide) (by decide) dL_law_343 rfl ?_
    refine kl_iload dL_law_344 rfl rfl ?_
    refine kl_i2l dL_law_346 rfl ?_
    refine kl_lif_eq (tgt := 353) dL_law_347 rfl dL_law_348 (by decide) rfl (fun _ => ?_) (fun h9 => absurd (hv2 h) h9)
    refine kl_goto (tgt := 1411) dL_law_353 (by decide) ?_
    refine kl_sub [(0, _), (1, _), (2, _), (3, _), (4, _)] rfl (hk S3 hI2)
set_option maxRecDepth 100000 in
set_option maxHeartbeats 800000 in
theorem l_l_key {l : Launch} {G : ks_G} {hh : KH} {K : lwK} {o c L : Nat} {xs : Nat → Int32} {S : ks_S} {P9 : Option Value → ks_S → Prop} (htr : l.stackTraces = false) (hc : c ≤ 512) (hm : lwM) (hsc : hh.2 = (L + 1, xs)) (hL : L ≤ 3072) (hi : 6 * c + 6 ≤ L) (hI : lwI K o c S) (hk : ∀ S', lwI K o (c + 1) S' → ks_L l G hh mL_law 18 1411 [(0, .ref ks_sc), (1, .ref 0), (2, .ref 290), (3, .ref o), (4, .int (nI (6 * c)))] [] S' P9) : ks_L l G hh mL_law 18 356 [(0, .ref ks_sc), (1, .ref 0), (2, .ref 290), (3, .ref o), (4, .int (nI (6 * c)))] [] S P9 := by
  refine kl_aload_n dL_law_356 rfl rfl ?_
  refine kl_aload_n dL_law_357 rfl rfl ?_
  refine kl_iload dL_law_358 rfl rfl ?_
  refine kl_iconst (x := nI 1) dL_law_360 (by decide) rfl ?_
  refine kl_addN dL_law_361 rfl ?_
  refine kl_scA (i := 6 * c + 1) hsc rfl (by omega) (by omega) dL_law_362 rfl ?_
  refine kl_aload_n dL_law_363 rfl rfl ?_
  refine kl_iload dL_law_364 rfl rfl ?_
  refine kl_iconst (x := nI 2) dL_law_366 (by decide) rfl ?_
  refine kl_addN dL_law_367 rfl ?_
  refine kl_scA (i := 6 * c + 2) hsc rfl (by omega) (by omega) dL_law_368 rfl ?_
  refine kl_aload_n dL_law_369 rfl rfl ?_
  obtain ⟨k, Q, hk4, hA, hB⟩ := op_key (l := l) (G := G) htr hc (x := xs (6 * c + 1)) (y := xs (6 * c + 2)) hm hI
  refine kl_callH (n := 4) (M' := mL_key) hA kx_1171 kx_1172 kx_0 kx_1173 (by decide +kernel) rfl (by decide) (Nat.le_of_ble_eq_true rfl) rfl dL_law_370 rfl (fun z1 S1 y1 => ?_)
  obtain ⟨rfl, q1⟩ := y1
  obtain ⟨⟨V1, o1⟩, hB⟩ := hB S1 q1
  refine kl_istore dL_law_373 (by decide) rfl ?_
  refine kl_sub [(5, _), (0, _), (1, _), (2, _), (3, _), (4, _)] rfl ?_
  refine kl_aload_n dL_law_375 rfl rfl ?_
  refine kl_aload_n dL_law_376 rfl rfl ?_
  refine kl_iload dL_law_377 rfl rfl ?_
  refine kl_iconst (x := nI 1) dL_law_379 (by decide) rfl ?_
  refine kl_addN dL_law_380 rfl ?_
  refine kl_scA (i := 6 * c + 1) hsc rfl (by omega) (by omega) dL_law_381 rfl ?_
  refine kl_aload_n dL_law_382 rfl rfl ?_
  refine kl_iload dL_law_383 rfl rfl ?_
  refine kl_iconst (x := nI 2) dL_law_385 (by decide) rfl ?_
  refine kl_addN dL_law_386 rfl ?_
  refine kl_scA (i := 6 * c + 2) hsc rfl (by omega) (by omega) dL_law_387 rfl ?_
  refine kl_callV (n := 2) (M' := mX16_key) hB o1 cl_X16 rfl kx_2750 kx_2751 kx_2752 kx_30 kx_2753 (by decide +kernel) rfl (by decide) (Nat.le_of_ble_eq_true rfl) rfl dL_law_388 rfl (fun z2 S2 y2 => ?_)
  obtain ⟨w2, V2, f2, rfl, o2, v2, ho2, hv2, hI2⟩ := y2
  refine kl_istore dL_law_391 (by decide) rfl ?_
  refine kl_sub [(6, _), (5, _), (0, _), (1, _), (2, _), (3, _), (4, _)] rfl ?_
  refine kl_aload_n dL_law_393 rfl rfl ?_
  refine kl_callV (n := 0) (M' := mX16_thrown) (c_md_thrown (d := 17) o2 v2) o2 cl_X16 rfl kx_2726 kx_2727 kx_2728 kx_30 kx_2729 (by decide +kernel) rfl (by decide) (Nat.le_of_ble_eq_true rfl) rfl dL_law_394 rfl (fun z3 S3 y3 => ?_)
  obtain ⟨rfl, e3⟩ := y3
  subst e3
  refine kl_iload dL_law_397 rfl rfl ?_
  refine kl_icmp_eq (tgt := 404) dL_law_399 (by decide) rfl (fun _ => ?_) (fun h => absurd rfl h)
  refine kl_iload dL_law_404 rfl rfl ?_
  refine kl_if_neN (tgt := 421) (by omega) dL_law_406 (by decide) rfl (fun h => ?_) (fun h => ?_)
  · refine kl_goto (tgt := 1411) dL_law_421 (by decide) ?_
    refine kl_sub [(0, _), (1, _), (2, _), (3, _), (4, _)] rfl (hk S3 hI2)
  · refine kl_aload_n dL_law_409 rfl rfl ?_
    refine kl_iconst (x := nI 0) dL_law_410 (by decide) rfl ?_
    refine kl_laldN (i := 0) ho2 rfl (by decide) (by decide) dL_law_411 rfl ?_
    refine kl_iload dL_law_412 rfl rfl ?_
    refine kl_i2l dL_law_414 rfl ?_
    refine kl_lif_eq (tgt := 421) dL_law_415 rfl dL_law_416 (by decide) rfl (fun _ => ?_) (fun h9 => absurd (hv2 h) h9)
    refine kl_goto (tgt := 1411) dL_law_421 (by decide) ?_
    refine kl_sub [(0, _), (1, _), (2, _), (3, _), (4, _)] rfl (hk S3 hI2)
set_option maxRecDepth 100000 in
set_option maxHeartbeats 800000 in
theorem l_l_digest {l : Launch} {G : ks_G} {hh : KH} {K : lwK} {o c L : Nat} {xs : Nat → Int32} {S : ks_S} {P9 : Option Value → ks_S → Prop} (htr : l.stackTraces = false) (hc : c ≤ 512)  (hsc : hh.2 = (L + 1, xs)) (hL : L ≤ 3072) (hi : 6 * c + 6 ≤ L) (hI : lwI K o c S) (hk : ∀ S', lwI K o (c + 1) S' → ks_L l G hh mL_law 18 1411 [(0, .ref ks_sc), (1, .ref 0), (2, .ref 290), (3, .ref o), (4, .int (nI (6 * c)))] [] S' P9) : ks_L l G hh mL_law 18 424 [(0, .ref ks_sc), (1, .ref 0), (2, .ref 290), (3, .ref o), (4, .int (nI (6 * c)))] [] S P9 := by
  refine kl_aload_n dL_law_424 rfl rfl ?_
  refine kl_aload_n dL_law_425 rfl rfl ?_
  refine kl_iload dL_law_426 rfl rfl ?_
  refine kl_iconst (x := nI 1) dL_law_428 (by decide) rfl ?_
  refine kl_addN dL_law_429 rfl ?_
  refine kl_scA (i := 6 * c + 1) hsc rfl (by omega) (by omega) dL_law_430 rfl ?_
  refine kl_aload_n dL_law_431 rfl rfl ?_
  obtain ⟨k, Q, hk4, hA, hB⟩ := op_digest (l := l) (G := G) htr hc (x := xs (6 * c + 1))  hI
  refine kl_callH (n := 3) (M' := mL_digest) hA kx_1243 kx_1244 kx_0 kx_1245 (by decide +kernel) rfl (by decide) (Nat.le_of_ble_eq_true rfl) rfl dL_law_432 rfl (fun z1 S1 y1 => ?_)
  obtain ⟨rfl, q1⟩ := y1
  obtain ⟨⟨V1, o1⟩, hB⟩ := hB S1 q1
  refine kl_istore dL_law_435 (by decide) rfl ?_
  refine kl_sub [(5, _), (0, _), (1, _), (2, _), (3, _), (4, _)] rfl ?_
  refine kl_aload_n dL_law_437 rfl rfl ?_
  refine kl_aload_n dL_law_438 rfl rfl ?_
  refine kl_iload dL_law_439 rfl rfl ?_
  refine kl_iconst (x := nI 1) dL_law_441 (by decide) rfl ?_
  refine kl_addN dL_law_442 rfl ?_
  refine kl_scA (i := 6 * c + 1) hsc rfl (by omega) (by omega) dL_law_443 rfl ?_
  refine kl_callV (n := 1) (M' := mX16_digest) hB o1 cl_X16 rfl kx_2761 kx_2762 kx_2763 kx_30 kx_2764 (by decide +kernel) rfl (by decide) (Nat.le_of_ble_eq_true rfl) rfl dL_law_444 rfl (fun z2 S2 y2 => ?_)
  obtain ⟨w2, V2, f2, rfl, o2, v2, ho2, hv2, hI2⟩ := y2
  refine kl_istore dL_law_447 (by decide) rfl ?_
  refine kl_sub [(6, _), (5, _), (0, _), (1, _), (2, _), (3, _), (4, _)] rfl ?_
  refine kl_aload_n dL_law_449 rfl rfl ?_
  refine kl_callV (n := 0) (M' := mX16_thrown) (c_md_thrown (d := 17) o2 v2) o2 cl_X16 rfl kx_2726 kx_2727 kx_2728 kx_30 kx_2729 (by decide +kernel) rfl (by decide) (Nat.le_of_ble_eq_true rfl) rfl dL_law_450 rfl (fun z3 S3 y3 => ?_)
  obtain ⟨rfl, e3⟩ := y3
  subst e3
  refine kl_iload dL_law_453 rfl rfl ?_
  refine kl_icmp_eq (tgt := 460) dL_law_455 (by decide) rfl (fun _ => ?_) (fun h => absurd rfl h)
  refine kl_iload dL_law_460 rfl rfl ?_
  refine kl_if_neN (tgt := 477) (by omega) dL_law_462 (by decide) rfl (fun h => ?_) (fun h => ?_)
  · refine kl_goto (tgt := 1411) dL_law_477 (by decide) ?_
    refine kl_sub [(0, _), (1, _), (2, _), (3, _), (4, _)] rfl (hk S3 hI2)
  · refine kl_aload_n dL_law_465 rfl rfl ?_
    refine kl_iconst (x := nI 0) dL_law_466 (by decide) rfl ?_
    refine kl_laldN (i := 0) ho2 rfl (by decide) (by decide) dL_law_467 rfl ?_
    refine kl_iload dL_law_468 rfl rfl ?_
    refine kl_i2l dL_law_470 rfl ?_
    refine kl_lif_eq (tgt := 477) dL_law_471 rfl dL_law_472 (by decide) rfl (fun _ => ?_) (fun h9 => absurd (hv2 h) h9)
    refine kl_goto (tgt := 1411) dL_law_477 (by decide) ?_
    refine kl_sub [(0, _), (1, _), (2, _), (3, _), (4, _)] rfl (hk S3 hI2)
set_option maxRecDepth 100000 in
set_option maxHeartbeats 800000 in
theorem l_l_open {l : Launch} {G : ks_G} {hh : KH} {K : lwK} {o c L : Nat} {xs : Nat → Int32} {S : ks_S} {P9 : Option Value → ks_S → Prop} (htr : l.stackTraces = false) (hc : c ≤ 512)  (hsc : hh.2 = (L + 1, xs)) (hL : L ≤ 3072) (hi : 6 * c + 6 ≤ L) (hI : lwI K o c S) (hk : ∀ S', lwI K o (c + 1) S' → ks_L l G hh mL_law 18 1411 [(0, .ref ks_sc), (1, .ref 0), (2, .ref 290), (3, .ref o), (4, .int (nI (6 * c)))] [] S' P9) : ks_L l G hh mL_law 18 480 [(0, .ref ks_sc), (1, .ref 0), (2, .ref 290), (3, .ref o), (4, .int (nI (6 * c)))] [] S P9 := by
  refine kl_aload_n dL_law_480 rfl rfl ?_
  refine kl_aload_n dL_law_481 rfl rfl ?_
  refine kl_iload dL_law_482 rfl rfl ?_
  refine kl_iconst (x := nI 1) dL_law_484 (by decide) rfl ?_
  refine kl_addN dL_law_485 rfl ?_
  refine kl_scA (i := 6 * c + 1) hsc rfl (by omega) (by omega) dL_law_486 rfl ?_
  refine kl_aload_n dL_law_487 rfl rfl ?_
  refine kl_iload dL_law_488 rfl rfl ?_
  refine kl_iconst (x := nI 2) dL_law_490 (by decide) rfl ?_
  refine kl_addN dL_law_491 rfl ?_
  refine kl_scA (i := 6 * c + 2) hsc rfl (by omega) (by omega) dL_law_492 rfl ?_
  refine kl_i2l dL_law_493 rfl ?_
  refine kl_bipush (x := nI 32) dL_law_494 (by decide) rfl ?_
  refine kl_lshl dL_law_496 rfl ?_
  refine kl_aload_n dL_law_497 rfl rfl ?_
  refine kl_iload dL_law_498 rfl rfl ?_
  refine kl_iconst (x := nI 3) dL_law_500 (by decide) rfl ?_
  refine kl_addN dL_law_501 rfl ?_
  refine kl_scA (i := 6 * c + 3) hsc rfl (by omega) (by omega) dL_law_502 rfl ?_
  refine kl_i2l dL_law_503 rfl ?_
  refine kl_ldc2 dL_law_504 kx_2873 rfl ?_
  refine kl_tl (y := lN 4294967295) rfl ?_
  refine kl_land dL_law_507 rfl ?_
  refine kl_lor dL_law_508 rfl ?_
  refine kl_tl (y := lJ (xs (6 * c + 2)) (xs (6 * c + 3))) rfl ?_
  obtain ⟨k, Q, hk4, hA, hB⟩ := op_open (l := l) (G := G) htr hc (x := xs (6 * c + 1)) (v := lJ (xs (6 * c + 2)) (xs (6 * c + 3)))  hI
  refine kl_callH (n := 3) (M' := mL_open) hA kx_1252 kx_1253 kx_0 kx_1254 (by decide +kernel) rfl (by decide) (Nat.le_of_ble_eq_true rfl) rfl dL_law_509 rfl (fun z1 S1 y1 => ?_)
  obtain ⟨rfl, q1⟩ := y1
  obtain ⟨⟨V1, o1⟩, hB⟩ := hB S1 q1
  refine kl_istore dL_law_512 (by decide) rfl ?_
  refine kl_sub [(5, _), (0, _), (1, _), (2, _), (3, _), (4, _)] rfl ?_
  refine kl_aload_n dL_law_514 rfl rfl ?_
  refine kl_aload_n dL_law_515 rfl rfl ?_
  refine kl_iload dL_law_516 rfl rfl ?_
  refine kl_iconst (x := nI 1) dL_law_518 (by decide) rfl ?_
  refine kl_addN dL_law_519 rfl ?_
  refine kl_scA (i := 6 * c + 1) hsc rfl (by omega) (by omega) dL_law_520 rfl ?_
  refine kl_aload_n dL_law_521 rfl rfl ?_
  refine kl_iload dL_law_522 rfl rfl ?_
  refine kl_iconst (x := nI 2) dL_law_524 (by decide) rfl ?_
  refine kl_addN dL_law_525 rfl ?_
  refine kl_scA (i := 6 * c + 2) hsc rfl (by omega) (by omega) dL_law_526 rfl ?_
  refine kl_i2l dL_law_527 rfl ?_
  refine kl_bipush (x := nI 32) dL_law_528 (by decide) rfl ?_
  refine kl_lshl dL_law_530 rfl ?_
  refine kl_aload_n dL_law_531 rfl rfl ?_
  refine kl_iload dL_law_532 rfl rfl ?_
  refine kl_iconst (x := nI 3) dL_law_534 (by decide) rfl ?_
  refine kl_addN dL_law_535 rfl ?_
  refine kl_scA (i := 6 * c + 3) hsc rfl (by omega) (by omega) dL_law_536 rfl ?_
  refine kl_i2l dL_law_537 rfl ?_
  refine kl_ldc2 dL_law_538 kx_2873 rfl ?_
  refine kl_tl (y := lN 4294967295) rfl ?_
  refine kl_land dL_law_541 rfl ?_
  refine kl_lor dL_law_542 rfl ?_
  refine kl_tl (y := lJ (xs (6 * c + 2)) (xs (6 * c + 3))) rfl ?_
  refine kl_callV (n := 2) (M' := mX16_open) hB o1 cl_X16 rfl kx_2765 kx_2766 kx_2767 kx_30 kx_2768 (by decide +kernel) rfl (by decide) (Nat.le_of_ble_eq_true rfl) rfl dL_law_543 rfl (fun z2 S2 y2 => ?_)
  obtain ⟨rfl, V2, o2, v2, hI2⟩ := y2
  refine kl_aload_n dL_law_546 rfl rfl ?_
  refine kl_callV (n := 0) (M' := mX16_thrown) (c_md_thrown (d := 17) o2 v2) o2 cl_X16 rfl kx_2726 kx_2727 kx_2728 kx_30 kx_2729 (by decide +kernel) rfl (by decide) (Nat.le_of_ble_eq_true rfl) rfl dL_law_547 rfl (fun z3 S3 y3 => ?_)
  obtain ⟨rfl, e3⟩ := y3
  subst e3
  refine kl_iload dL_law_550 rfl rfl ?_
  refine kl_icmp_eq (tgt := 557) dL_law_552 (by decide) rfl (fun _ => ?_) (fun h => absurd rfl h)
  refine kl_goto (tgt := 1411) dL_law_557 (by decide) ?_
  refine kl_sub [(0, _), (1, _), (2, _), (3, _), (4, _)] rfl (hk S3 hI2)
set_option maxRecDepth 100000 in
set_option maxHeartbeats 800000 in
theorem l_l_tx {l : Launch} {G : ks_G} {hh : KH} {K : lwK} {o c L : Nat} {xs : Nat → Int32} {S : ks_S} {P9 : Option Value → ks_S → Prop} (htr : l.stackTraces = false) (hc : c ≤ 512)  (hsc : hh.2 = (L + 1, xs)) (hL : L ≤ 3072) (hi : 6 * c + 6 ≤ L) (hI : lwI K o c S) (hk : ∀ S', lwI K o (c + 1) S' → ks_L l G hh mL_law 18 1411 [(0, .ref ks_sc), (1, .ref 0), (2, .ref 290), (3, .ref o), (4, .int (nI (6 * c)))] [] S' P9) : ks_L l G hh mL_law 18 560 [(0, .ref ks_sc), (1, .ref 0), (2, .ref 290), (3, .ref o), (4, .int (nI (6 * c)))] [] S P9 := by
  refine kl_aload_n dL_law_560 rfl rfl ?_
  refine kl_aload_n dL_law_561 rfl rfl ?_
  refine kl_iload dL_law_562 rfl rfl ?_
  refine kl_iconst (x := nI 1) dL_law_564 (by decide) rfl ?_
  refine kl_addN dL_law_565 rfl ?_
  refine kl_scA (i := 6 * c + 1) hsc rfl (by omega) (by omega) dL_law_566 rfl ?_
  refine kl_i2l dL_law_567 rfl ?_
  refine kl_bipush (x := nI 32) dL_law_568 (by decide) rfl ?_
  refine kl_lshl dL_law_570 rfl ?_
  refine kl_aload_n dL_law_571 rfl rfl ?_
  refine kl_iload dL_law_572 rfl rfl ?_
  refine kl_iconst (x := nI 2) dL_law_574 (by decide) rfl ?_
  refine kl_addN dL_law_575 rfl ?_
  refine kl_scA (i := 6 * c + 2) hsc rfl (by omega) (by omega) dL_law_576 rfl ?_
  refine kl_i2l dL_law_577 rfl ?_
  refine kl_ldc2 dL_law_578 kx_2873 rfl ?_
  refine kl_tl (y := lN 4294967295) rfl ?_
  refine kl_land dL_law_581 rfl ?_
  refine kl_lor dL_law_582 rfl ?_
  refine kl_tl (y := lJ (xs (6 * c + 1)) (xs (6 * c + 2))) rfl ?_
  refine kl_aload_n dL_law_583 rfl rfl ?_
  refine kl_iload dL_law_584 rfl rfl ?_
  refine kl_iconst (x := nI 3) dL_law_586 (by decide) rfl ?_
  refine kl_addN dL_law_587 rfl ?_
  refine kl_scA (i := 6 * c + 3) hsc rfl (by omega) (by omega) dL_law_588 rfl ?_
  refine kl_i2l dL_law_589 rfl ?_
  refine kl_bipush (x := nI 32) dL_law_590 (by decide) rfl ?_
  refine kl_lshl dL_law_592 rfl ?_
  refine kl_aload_n dL_law_593 rfl rfl ?_
  refine kl_iload dL_law_594 rfl rfl ?_
  refine kl_iconst (x := nI 4) dL_law_596 (by decide) rfl ?_
  refine kl_addN dL_law_597 rfl ?_
  refine kl_scA (i := 6 * c + 4) hsc rfl (by omega) (by omega) dL_law_598 rfl ?_
  refine kl_i2l dL_law_599 rfl ?_
  refine kl_ldc2 dL_law_600 kx_2873 rfl ?_
  refine kl_tl (y := lN 4294967295) rfl ?_
  refine kl_land dL_law_603 rfl ?_
  refine kl_lor dL_law_604 rfl ?_
  refine kl_tl (y := lJ (xs (6 * c + 3)) (xs (6 * c + 4))) rfl ?_
  refine kl_aload_n dL_law_605 rfl rfl ?_
  obtain ⟨k, Q, hk4, hA, hB⟩ := op_tx (l := l) (G := G) htr hc (x := lJ (xs (6 * c + 1)) (xs (6 * c + 2))) (k := lJ (xs (6 * c + 3)) (xs (6 * c + 4)))  hI
  refine kl_callH (n := 4) (M' := mL_tx) hA kx_1262 kx_1263 kx_0 kx_1264 (by decide +kernel) rfl (by decide) (Nat.le_of_ble_eq_true rfl) rfl dL_law_606 rfl (fun z1 S1 y1 => ?_)
  obtain ⟨rfl, q1⟩ := y1
  obtain ⟨⟨V1, o1⟩, hB⟩ := hB S1 q1
  refine kl_istore dL_law_609 (by decide) rfl ?_
  refine kl_sub [(5, _), (0, _), (1, _), (2, _), (3, _), (4, _)] rfl ?_
  refine kl_aload_n dL_law_611 rfl rfl ?_
  refine kl_aload_n dL_law_612 rfl rfl ?_
  refine kl_iload dL_law_613 rfl rfl ?_
  refine kl_iconst (x := nI 1) dL_law_615 (by decide) rfl ?_
  refine kl_addN dL_law_616 rfl ?_
  refine kl_scA (i := 6 * c + 1) hsc rfl (by omega) (by omega) dL_law_617 rfl ?_
  refine kl_i2l dL_law_618 rfl ?_
  refine kl_bipush (x := nI 32) dL_law_619 (by decide) rfl ?_
  refine kl_lshl dL_law_621 rfl ?_
  refine kl_aload_n dL_law_622 rfl rfl ?_
  refine kl_iload dL_law_623 rfl rfl ?_
  refine kl_iconst (x := nI 2) dL_law_625 (by decide) rfl ?_
  refine kl_addN dL_law_626 rfl ?_
  refine kl_scA (i := 6 * c + 2) hsc rfl (by omega) (by omega) dL_law_627 rfl ?_
  refine kl_i2l dL_law_628 rfl ?_
  refine kl_ldc2 dL_law_629 kx_2873 rfl ?_
  refine kl_tl (y := lN 4294967295) rfl ?_
  refine kl_land dL_law_632 rfl ?_
  refine kl_lor dL_law_633 rfl ?_
  refine kl_tl (y := lJ (xs (6 * c + 1)) (xs (6 * c + 2))) rfl ?_
  refine kl_aload_n dL_law_634 rfl rfl ?_
  refine kl_iload dL_law_635 rfl rfl ?_
  refine kl_iconst (x := nI 3) dL_law_637 (by decide) rfl ?_
  refine kl_addN dL_law_638 rfl ?_
  refine kl_scA (i := 6 * c + 3) hsc rfl (by omega) (by omega) dL_law_639 rfl ?_
  refine kl_i2l dL_law_640 rfl ?_
  refine kl_bipush (x := nI 32) dL_law_641 (by decide) rfl ?_
  refine kl_lshl dL_law_643 rfl ?_
  refine kl_aload_n dL_law_644 rfl rfl ?_
  refine kl_iload dL_law_645 rfl rfl ?_
  refine kl_iconst (x := nI 4) dL_law_647 (by decide) rfl ?_
  refine kl_addN dL_law_648 rfl ?_
  refine kl_scA (i := 6 * c + 4) hsc rfl (by omega) (by omega) dL_law_649 rfl ?_
  refine kl_i2l dL_law_650 rfl ?_
  refine kl_ldc2 dL_law_651 kx_2873 rfl ?_
  refine kl_tl (y := lN 4294967295) rfl ?_
  refine kl_land dL_law_654 rfl ?_
  refine kl_lor dL_law_655 rfl ?_
  refine kl_tl (y := lJ (xs (6 * c + 3)) (xs (6 * c + 4))) rfl ?_
  refine kl_callV (n := 2) (M' := mX16_tx) hB o1 cl_X16 rfl kx_2772 kx_2773 kx_2774 kx_30 kx_2775 (by decide +kernel) rfl (by decide) (Nat.le_of_ble_eq_true rfl) rfl dL_law_656 rfl (fun z2 S2 y2 => ?_)
  obtain ⟨w2, V2, f2, rfl, o2, v2, ho2, hv2, hI2⟩ := y2
  refine kl_istore dL_law_659 (by decide) rfl ?_
  refine kl_sub [(6, _), (5, _), (0, _), (1, _), (2, _), (3, _), (4, _)] rfl ?_
  refine kl_aload_n dL_law_661 rfl rfl ?_
  refine kl_callV (n := 0) (M' := mX16_thrown) (c_md_thrown (d := 17) o2 v2) o2 cl_X16 rfl kx_2726 kx_2727 kx_2728 kx_30 kx_2729 (by decide +kernel) rfl (by decide) (Nat.le_of_ble_eq_true rfl) rfl dL_law_662 rfl (fun z3 S3 y3 => ?_)
  obtain ⟨rfl, e3⟩ := y3
  subst e3
  refine kl_iload dL_law_665 rfl rfl ?_
  refine kl_icmp_eq (tgt := 672) dL_law_667 (by decide) rfl (fun _ => ?_) (fun h => absurd rfl h)
  refine kl_iload dL_law_672 rfl rfl ?_
  refine kl_if_neN (tgt := 689) (by omega) dL_law_674 (by decide) rfl (fun h => ?_) (fun h => ?_)
  · refine kl_goto (tgt := 1411) dL_law_689 (by decide) ?_
    refine kl_sub [(0, _), (1, _), (2, _), (3, _), (4, _)] rfl (hk S3 hI2)
  · refine kl_aload_n dL_law_677 rfl rfl ?_
    refine kl_iconst (x := nI 0) dL_law_678 (by decide) rfl ?_
    refine kl_laldN (i := 0) ho2 rfl (by decide) (by decide) dL_law_679 rfl ?_
    refine kl_iload dL_law_680 rfl rfl ?_
    refine kl_i2l dL_law_682 rfl ?_
    refine kl_lif_eq (tgt := 689) dL_law_683 rfl dL_law_684 (by decide) rfl (fun _ => ?_) (fun h9 => absurd (hv2 h) h9)
    refine kl_goto (tgt := 1411) dL_law_689 (by decide) ?_
    refine kl_sub [(0, _), (1, _), (2, _), (3, _), (4, _)] rfl (hk S3 hI2)
set_option maxRecDepth 100000 in
set_option maxHeartbeats 800000 in
theorem l_l_input {l : Launch} {G : ks_G} {hh : KH} {K : lwK} {o c L : Nat} {xs : Nat → Int32} {S : ks_S} {P9 : Option Value → ks_S → Prop} (htr : l.stackTraces = false) (hc : c ≤ 512)  (hsc : hh.2 = (L + 1, xs)) (hL : L ≤ 3072) (hi : 6 * c + 6 ≤ L) (hI : lwI K o c S) (hk : ∀ S', lwI K o (c + 1) S' → ks_L l G hh mL_law 18 1411 [(0, .ref ks_sc), (1, .ref 0), (2, .ref 290), (3, .ref o), (4, .int (nI (6 * c)))] [] S' P9) : ks_L l G hh mL_law 18 692 [(0, .ref ks_sc), (1, .ref 0), (2, .ref 290), (3, .ref o), (4, .int (nI (6 * c)))] [] S P9 := by
  refine kl_aload_n dL_law_692 rfl rfl ?_
  refine kl_aload_n dL_law_693 rfl rfl ?_
  refine kl_iload dL_law_694 rfl rfl ?_
  refine kl_iconst (x := nI 1) dL_law_696 (by decide) rfl ?_
  refine kl_addN dL_law_697 rfl ?_
  refine kl_scA (i := 6 * c + 1) hsc rfl (by omega) (by omega) dL_law_698 rfl ?_
  refine kl_aload_n dL_law_699 rfl rfl ?_
  refine kl_iload dL_law_700 rfl rfl ?_
  refine kl_iconst (x := nI 2) dL_law_702 (by decide) rfl ?_
  refine kl_addN dL_law_703 rfl ?_
  refine kl_scA (i := 6 * c + 2) hsc rfl (by omega) (by omega) dL_law_704 rfl ?_
  refine kl_aload_n dL_law_705 rfl rfl ?_
  refine kl_iload dL_law_706 rfl rfl ?_
  refine kl_iconst (x := nI 3) dL_law_708 (by decide) rfl ?_
  refine kl_addN dL_law_709 rfl ?_
  refine kl_scA (i := 6 * c + 3) hsc rfl (by omega) (by omega) dL_law_710 rfl ?_
  refine kl_aload_n dL_law_711 rfl rfl ?_
  refine kl_iload dL_law_712 rfl rfl ?_
  refine kl_iconst (x := nI 4) dL_law_714 (by decide) rfl ?_
  refine kl_addN dL_law_715 rfl ?_
  refine kl_scA (i := 6 * c + 4) hsc rfl (by omega) (by omega) dL_law_716 rfl ?_
  refine kl_i2l dL_law_717 rfl ?_
  refine kl_bipush (x := nI 32) dL_law_718 (by decide) rfl ?_
  refine kl_lshl dL_law_720 rfl ?_
  refine kl_aload_n dL_law_721 rfl rfl ?_
  refine kl_iload dL_law_722 rfl rfl ?_
  refine kl_iconst (x := nI 5) dL_law_724 (by decide) rfl ?_
  refine kl_addN dL_law_725 rfl ?_
  refine kl_scA (i := 6 * c + 5) hsc rfl (by omega) (by omega) dL_law_726 rfl ?_
  refine kl_i2l dL_law_727 rfl ?_
  refine kl_ldc2 dL_law_728 kx_2873 rfl ?_
  refine kl_tl (y := lN 4294967295) rfl ?_
  refine kl_land dL_law_731 rfl ?_
  refine kl_lor dL_law_732 rfl ?_
  refine kl_tl (y := lJ (xs (6 * c + 4)) (xs (6 * c + 5))) rfl ?_
  refine kl_aload_n dL_law_733 rfl rfl ?_
  obtain ⟨k, Q, hk4, hA, hB⟩ := op_input (l := l) (G := G) htr hc (x := xs (6 * c + 1)) (y := xs (6 * c + 2)) (ix := xs (6 * c + 3)) (q9 := lJ (xs (6 * c + 4)) (xs (6 * c + 5)))  hI
  refine kl_callH (n := 6) (M' := mL_input) hA kx_1269 kx_1270 kx_0 kx_1271 (by decide +kernel) rfl (by decide) (Nat.le_of_ble_eq_true rfl) rfl dL_law_734 rfl (fun z1 S1 y1 => ?_)
  obtain ⟨rfl, q1⟩ := y1
  obtain ⟨⟨V1, o1⟩, hB⟩ := hB S1 q1
  refine kl_istore dL_law_737 (by decide) rfl ?_
  refine kl_sub [(5, _), (0, _), (1, _), (2, _), (3, _), (4, _)] rfl ?_
  refine kl_aload_n dL_law_739 rfl rfl ?_
  refine kl_aload_n dL_law_740 rfl rfl ?_
  refine kl_iload dL_law_741 rfl rfl ?_
  refine kl_iconst (x := nI 1) dL_law_743 (by decide) rfl ?_
  refine kl_addN dL_law_744 rfl ?_
  refine kl_scA (i := 6 * c + 1) hsc rfl (by omega) (by omega) dL_law_745 rfl ?_
  refine kl_aload_n dL_law_746 rfl rfl ?_
  refine kl_iload dL_law_747 rfl rfl ?_
  refine kl_iconst (x := nI 2) dL_law_749 (by decide) rfl ?_
  refine kl_addN dL_law_750 rfl ?_
  refine kl_scA (i := 6 * c + 2) hsc rfl (by omega) (by omega) dL_law_751 rfl ?_
  refine kl_aload_n dL_law_752 rfl rfl ?_
  refine kl_iload dL_law_753 rfl rfl ?_
  refine kl_iconst (x := nI 3) dL_law_755 (by decide) rfl ?_
  refine kl_addN dL_law_756 rfl ?_
  refine kl_scA (i := 6 * c + 3) hsc rfl (by omega) (by omega) dL_law_757 rfl ?_
  refine kl_aload_n dL_law_758 rfl rfl ?_
  refine kl_iload dL_law_759 rfl rfl ?_
  refine kl_iconst (x := nI 4) dL_law_761 (by decide) rfl ?_
  refine kl_addN dL_law_762 rfl ?_
  refine kl_scA (i := 6 * c + 4) hsc rfl (by omega) (by omega) dL_law_763 rfl ?_
  refine kl_i2l dL_law_764 rfl ?_
  refine kl_bipush (x := nI 32) dL_law_765 (by decide) rfl ?_
  refine kl_lshl dL_law_767 rfl ?_
  refine kl_aload_n dL_law_768 rfl rfl ?_
  refine kl_iload dL_law_769 rfl rfl ?_
  refine kl_iconst (x := nI 5) dL_law_771 (by decide) rfl ?_
  refine kl_addN dL_law_772 rfl ?_
  refine kl_scA (i := 6 * c + 5) hsc rfl (by omega) (by omega) dL_law_773 rfl ?_
  refine kl_i2l dL_law_774 rfl ?_
  refine kl_ldc2 dL_law_775 kx_2873 rfl ?_
  refine kl_tl (y := lN 4294967295) rfl ?_
  refine kl_land dL_law_778 rfl ?_
  refine kl_lor dL_law_779 rfl ?_
  refine kl_tl (y := lJ (xs (6 * c + 4)) (xs (6 * c + 5))) rfl ?_
  refine kl_callV (n := 4) (M' := mX16_input_) hB o1 cl_X16 rfl kx_2776 kx_2777 kx_2778 kx_30 kx_2779 (by decide +kernel) rfl (by decide) (Nat.le_of_ble_eq_true rfl) rfl dL_law_780 rfl (fun z2 S2 y2 => ?_)
  obtain ⟨w2, V2, f2, rfl, o2, v2, ho2, hv2, hI2⟩ := y2
  refine kl_istore dL_law_783 (by decide) rfl ?_
  refine kl_sub [(6, _), (5, _), (0, _), (1, _), (2, _), (3, _), (4, _)] rfl ?_
  refine kl_aload_n dL_law_785 rfl rfl ?_
  refine kl_callV (n := 0) (M' := mX16_thrown) (c_md_thrown (d := 17) o2 v2) o2 cl_X16 rfl kx_2726 kx_2727 kx_2728 kx_30 kx_2729 (by decide +kernel) rfl (by decide) (Nat.le_of_ble_eq_true rfl) rfl dL_law_786 rfl (fun z3 S3 y3 => ?_)
  obtain ⟨rfl, e3⟩ := y3
  subst e3
  refine kl_iload dL_law_789 rfl rfl ?_
  refine kl_icmp_eq (tgt := 796) dL_law_791 (by decide) rfl (fun _ => ?_) (fun h => absurd rfl h)
  refine kl_iload dL_law_796 rfl rfl ?_
  refine kl_if_neN (tgt := 813) (by omega) dL_law_798 (by decide) rfl (fun h => ?_) (fun h => ?_)
  · refine kl_goto (tgt := 1411) dL_law_813 (by decide) ?_
    refine kl_sub [(0, _), (1, _), (2, _), (3, _), (4, _)] rfl (hk S3 hI2)
  · refine kl_aload_n dL_law_801 rfl rfl ?_
    refine kl_iconst (x := nI 0) dL_law_802 (by decide) rfl ?_
    refine kl_laldN (i := 0) ho2 rfl (by decide) (by decide) dL_law_803 rfl ?_
    refine kl_iload dL_law_804 rfl rfl ?_
    refine kl_i2l dL_law_806 rfl ?_
    refine kl_lif_eq (tgt := 813) dL_law_807 rfl dL_law_808 (by decide) rfl (fun _ => ?_) (fun h9 => absurd (hv2 h) h9)
    refine kl_goto (tgt := 1411) dL_law_813 (by decide) ?_
    refine kl_sub [(0, _), (1, _), (2, _), (3, _), (4, _)] rfl (hk S3 hI2)
set_option maxRecDepth 100000 in
set_option maxHeartbeats 800000 in
theorem l_l_output {l : Launch} {G : ks_G} {hh : KH} {K : lwK} {o c L : Nat} {xs : Nat → Int32} {S : ks_S} {P9 : Option Value → ks_S → Prop} (htr : l.stackTraces = false) (hc : c ≤ 512)  (hsc : hh.2 = (L + 1, xs)) (hL : L ≤ 3072) (hi : 6 * c + 6 ≤ L) (hI : lwI K o c S) (hk : ∀ S', lwI K o (c + 1) S' → ks_L l G hh mL_law 18 1411 [(0, .ref ks_sc), (1, .ref 0), (2, .ref 290), (3, .ref o), (4, .int (nI (6 * c)))] [] S' P9) : ks_L l G hh mL_law 18 816 [(0, .ref ks_sc), (1, .ref 0), (2, .ref 290), (3, .ref o), (4, .int (nI (6 * c)))] [] S P9 := by
  refine kl_aload_n dL_law_816 rfl rfl ?_
  refine kl_aload_n dL_law_817 rfl rfl ?_
  refine kl_iload dL_law_818 rfl rfl ?_
  refine kl_iconst (x := nI 1) dL_law_820 (by decide) rfl ?_
  refine kl_addN dL_law_821 rfl ?_
  refine kl_scA (i := 6 * c + 1) hsc rfl (by omega) (by omega) dL_law_822 rfl ?_
  refine kl_i2l dL_law_823 rfl ?_
  refine kl_bipush (x := nI 32) dL_law_824 (by decide) rfl ?_
  refine kl_lshl dL_law_826 rfl ?_
  refine kl_aload_n dL_law_827 rfl rfl ?_
  refine kl_iload dL_law_828 rfl rfl ?_
  refine kl_iconst (x := nI 2) dL_law_830 (by decide) rfl ?_
  refine kl_addN dL_law_831 rfl ?_
  refine kl_scA (i := 6 * c + 2) hsc rfl (by omega) (by omega) dL_law_832 rfl ?_
  refine kl_i2l dL_law_833 rfl ?_
  refine kl_ldc2 dL_law_834 kx_2873 rfl ?_
  refine kl_tl (y := lN 4294967295) rfl ?_
  refine kl_land dL_law_837 rfl ?_
  refine kl_lor dL_law_838 rfl ?_
  refine kl_tl (y := lJ (xs (6 * c + 1)) (xs (6 * c + 2))) rfl ?_
  refine kl_aload_n dL_law_839 rfl rfl ?_
  obtain ⟨k, Q, hk4, hA, hB⟩ := op_output (l := l) (G := G) htr hc (x := lJ (xs (6 * c + 1)) (xs (6 * c + 2)))  hI
  refine kl_callH (n := 3) (M' := mL_output) hA kx_1296 kx_1297 kx_0 kx_1298 (by decide +kernel) rfl (by decide) (Nat.le_of_ble_eq_true rfl) rfl dL_law_840 rfl (fun z1 S1 y1 => ?_)
  obtain ⟨rfl, q1⟩ := y1
  obtain ⟨⟨V1, o1⟩, hB⟩ := hB S1 q1
  refine kl_istore dL_law_843 (by decide) rfl ?_
  refine kl_sub [(5, _), (0, _), (1, _), (2, _), (3, _), (4, _)] rfl ?_
  refine kl_aload_n dL_law_845 rfl rfl ?_
  refine kl_aload_n dL_law_846 rfl rfl ?_
  refine kl_iload dL_law_847 rfl rfl ?_
  refine kl_iconst (x := nI 1) dL_law_849 (by decide) rfl ?_
  refine kl_addN dL_law_850 rfl ?_
  refine kl_scA (i := 6 * c + 1) hsc rfl (by omega) (by omega) dL_law_851 rfl ?_
  refine kl_i2l dL_law_852 rfl ?_
  refine kl_bipush (x := nI 32) dL_law_853 (by decide) rfl ?_
  refine kl_lshl dL_law_855 rfl ?_
  refine kl_aload_n dL_law_856 rfl rfl ?_
  refine kl_iload dL_law_857 rfl rfl ?_
  refine kl_iconst (x := nI 2) dL_law_859 (by decide) rfl ?_
  refine kl_addN dL_law_860 rfl ?_
  refine kl_scA (i := 6 * c + 2) hsc rfl (by omega) (by omega) dL_law_861 rfl ?_
  refine kl_i2l dL_law_862 rfl ?_
  refine kl_ldc2 dL_law_863 kx_2873 rfl ?_
  refine kl_tl (y := lN 4294967295) rfl ?_
  refine kl_land dL_law_866 rfl ?_
  refine kl_lor dL_law_867 rfl ?_
  refine kl_tl (y := lJ (xs (6 * c + 1)) (xs (6 * c + 2))) rfl ?_
  refine kl_callV (n := 1) (M' := mX16_output_) hB o1 cl_X16 rfl kx_2780 kx_2781 kx_2782 kx_30 kx_2783 (by decide +kernel) rfl (by decide) (Nat.le_of_ble_eq_true rfl) rfl dL_law_868 rfl (fun z2 S2 y2 => ?_)
  obtain ⟨w2, V2, f2, rfl, o2, v2, ho2, hv2, hI2⟩ := y2
  refine kl_istore dL_law_871 (by decide) rfl ?_
  refine kl_sub [(6, _), (5, _), (0, _), (1, _), (2, _), (3, _), (4, _)] rfl ?_
  refine kl_aload_n dL_law_873 rfl rfl ?_
  refine kl_callV (n := 0) (M' := mX16_thrown) (c_md_thrown (d := 17) o2 v2) o2 cl_X16 rfl kx_2726 kx_2727 kx_2728 kx_30 kx_2729 (by decide +kernel) rfl (by decide) (Nat.le_of_ble_eq_true rfl) rfl dL_law_874 rfl (fun z3 S3 y3 => ?_)
  obtain ⟨rfl, e3⟩ := y3
  subst e3
  refine kl_iload dL_law_877 rfl rfl ?_
  refine kl_icmp_eq (tgt := 884) dL_law_879 (by decide) rfl (fun _ => ?_) (fun h => absurd rfl h)
  refine kl_iload dL_law_884 rfl rfl ?_
  refine kl_if_neN (tgt := 901) (by omega) dL_law_886 (by decide) rfl (fun h => ?_) (fun h => ?_)
  · refine kl_goto (tgt := 1411) dL_law_901 (by decide) ?_
    refine kl_sub [(0, _), (1, _), (2, _), (3, _), (4, _)] rfl (hk S3 hI2)
  · refine kl_aload_n dL_law_889 rfl rfl ?_
    refine kl_iconst (x := nI 0) dL_law_890 (by decide) rfl ?_
    refine kl_laldN (i := 0) ho2 rfl (by decide) (by decide) dL_law_891 rfl ?_
    refine kl_iload dL_law_892 rfl rfl ?_
    refine kl_i2l dL_law_894 rfl ?_
    refine kl_lif_eq (tgt := 901) dL_law_895 rfl dL_law_896 (by decide) rfl (fun _ => ?_) (fun h9 => absurd (hv2 h) h9)
    refine kl_goto (tgt := 1411) dL_law_901 (by decide) ?_
    refine kl_sub [(0, _), (1, _), (2, _), (3, _), (4, _)] rfl (hk S3 hI2)
set_option maxRecDepth 100000 in
set_option maxHeartbeats 800000 in
theorem l_l_push {l : Launch} {G : ks_G} {hh : KH} {K : lwK} {o c L : Nat} {xs : Nat → Int32} {S : ks_S} {P9 : Option Value → ks_S → Prop} (htr : l.stackTraces = false) (hc : c ≤ 512)  (hsc : hh.2 = (L + 1, xs)) (hL : L ≤ 3072) (hi : 6 * c + 6 ≤ L) (hI : lwI K o c S) (hk : ∀ S', lwI K o (c + 1) S' → ks_L l G hh mL_law 18 1411 [(0, .ref ks_sc), (1, .ref 0), (2, .ref 290), (3, .ref o), (4, .int (nI (6 * c)))] [] S' P9) : ks_L l G hh mL_law 18 904 [(0, .ref ks_sc), (1, .ref 0), (2, .ref 290), (3, .ref o), (4, .int (nI (6 * c)))] [] S P9 := by
  refine kl_aload_n dL_law_904 rfl rfl ?_
  refine kl_aload_n dL_law_905 rfl rfl ?_
  refine kl_iload dL_law_906 rfl rfl ?_
  refine kl_iconst (x := nI 1) dL_law_908 (by decide) rfl ?_
  refine kl_addN dL_law_909 rfl ?_
  refine kl_scA (i := 6 * c + 1) hsc rfl (by omega) (by omega) dL_law_910 rfl ?_
  refine kl_aload_n dL_law_911 rfl rfl ?_
  obtain ⟨k, Q, hk4, hA, hB⟩ := op_push (l := l) (G := G) htr hc (x := xs (6 * c + 1))  hI
  refine kl_callH (n := 3) (M' := mL_push) hA kx_1303 kx_1304 kx_0 kx_1305 (by decide +kernel) rfl (by decide) (Nat.le_of_ble_eq_true rfl) rfl dL_law_912 rfl (fun z1 S1 y1 => ?_)
  obtain ⟨rfl, q1⟩ := y1
  obtain ⟨⟨V1, o1⟩, hB⟩ := hB S1 q1
  refine kl_istore dL_law_915 (by decide) rfl ?_
  refine kl_sub [(5, _), (0, _), (1, _), (2, _), (3, _), (4, _)] rfl ?_
  refine kl_aload_n dL_law_917 rfl rfl ?_
  refine kl_aload_n dL_law_918 rfl rfl ?_
  refine kl_iload dL_law_919 rfl rfl ?_
  refine kl_iconst (x := nI 1) dL_law_921 (by decide) rfl ?_
  refine kl_addN dL_law_922 rfl ?_
  refine kl_scA (i := 6 * c + 1) hsc rfl (by omega) (by omega) dL_law_923 rfl ?_
  refine kl_callV (n := 1) (M' := mX16_push_) hB o1 cl_X16 rfl kx_2784 kx_2785 kx_2786 kx_30 kx_2787 (by decide +kernel) rfl (by decide) (Nat.le_of_ble_eq_true rfl) rfl dL_law_924 rfl (fun z2 S2 y2 => ?_)
  obtain ⟨w2, V2, f2, rfl, o2, v2, ho2, hv2, hI2⟩ := y2
  refine kl_istore dL_law_927 (by decide) rfl ?_
  refine kl_sub [(6, _), (5, _), (0, _), (1, _), (2, _), (3, _), (4, _)] rfl ?_
  refine kl_aload_n dL_law_929 rfl rfl ?_
  refine kl_callV (n := 0) (M' := mX16_thrown) (c_md_thrown (d := 17) o2 v2) o2 cl_X16 rfl kx_2726 kx_2727 kx_2728 kx_30 kx_2729 (by decide +kernel) rfl (by decide) (Nat.le_of_ble_eq_true rfl) rfl dL_law_930 rfl (fun z3 S3 y3 => ?_)
  obtain ⟨rfl, e3⟩ := y3
  subst e3
  refine kl_iload dL_law_933 rfl rfl ?_
  refine kl_icmp_eq (tgt := 940) dL_law_935 (by decide) rfl (fun _ => ?_) (fun h => absurd rfl h)
  refine kl_iload dL_law_940 rfl rfl ?_
  refine kl_if_neN (tgt := 957) (by omega) dL_law_942 (by decide) rfl (fun h => ?_) (fun h => ?_)
  · refine kl_goto (tgt := 1411) dL_law_957 (by decide) ?_
    refine kl_sub [(0, _), (1, _), (2, _), (3, _), (4, _)] rfl (hk S3 hI2)
  · refine kl_aload_n dL_law_945 rfl rfl ?_
    refine kl_iconst (x := nI 0) dL_law_946 (by decide) rfl ?_
    refine kl_laldN (i := 0) ho2 rfl (by decide) (by decide) dL_law_947 rfl ?_
    refine kl_iload dL_law_948 rfl rfl ?_
    refine kl_i2l dL_law_950 rfl ?_
    refine kl_lif_eq (tgt := 957) dL_law_951 rfl dL_law_952 (by decide) rfl (fun _ => ?_) (fun h9 => absurd (hv2 h) h9)
    refine kl_goto (tgt := 1411) dL_law_957 (by decide) ?_
    refine kl_sub [(0, _), (1, _), (2, _), (3, _), (4, _)] rfl (hk S3 hI2)
set_option maxRecDepth 100000 in
set_option maxHeartbeats 800000 in
theorem l_l_sign {l : Launch} {G : ks_G} {hh : KH} {K : lwK} {o c L : Nat} {xs : Nat → Int32} {S : ks_S} {P9 : Option Value → ks_S → Prop} (htr : l.stackTraces = false) (hc : c ≤ 512) (hm : lwM) (hsc : hh.2 = (L + 1, xs)) (hL : L ≤ 3072) (hi : 6 * c + 6 ≤ L) (hI : lwI K o c S) (hk : ∀ S', lwI K o (c + 1) S' → ks_L l G hh mL_law 18 1411 [(0, .ref ks_sc), (1, .ref 0), (2, .ref 290), (3, .ref o), (4, .int (nI (6 * c)))] [] S' P9) : ks_L l G hh mL_law 18 960 [(0, .ref ks_sc), (1, .ref 0), (2, .ref 290), (3, .ref o), (4, .int (nI (6 * c)))] [] S P9 := by
  refine kl_aload_n dL_law_960 rfl rfl ?_
  refine kl_aload_n dL_law_961 rfl rfl ?_
  refine kl_iload dL_law_962 rfl rfl ?_
  refine kl_iconst (x := nI 1) dL_law_964 (by decide) rfl ?_
  refine kl_addN dL_law_965 rfl ?_
  refine kl_scA (i := 6 * c + 1) hsc rfl (by omega) (by omega) dL_law_966 rfl ?_
  refine kl_aload_n dL_law_967 rfl rfl ?_
  refine kl_iload dL_law_968 rfl rfl ?_
  refine kl_iconst (x := nI 2) dL_law_970 (by decide) rfl ?_
  refine kl_addN dL_law_971 rfl ?_
  refine kl_scA (i := 6 * c + 2) hsc rfl (by omega) (by omega) dL_law_972 rfl ?_
  refine kl_aload_n dL_law_973 rfl rfl ?_
  refine kl_iload dL_law_974 rfl rfl ?_
  refine kl_iconst (x := nI 3) dL_law_976 (by decide) rfl ?_
  refine kl_addN dL_law_977 rfl ?_
  refine kl_scA (i := 6 * c + 3) hsc rfl (by omega) (by omega) dL_law_978 rfl ?_
  refine kl_aload_n dL_law_979 rfl rfl ?_
  obtain ⟨k, Q, hk4, hA, hB⟩ := op_sign (l := l) (G := G) htr hc (x := xs (6 * c + 1)) (y := xs (6 * c + 2)) (q9 := xs (6 * c + 3)) hm hI
  refine kl_callH (n := 5) (M' := mL_sign) hA kx_1318 kx_1319 kx_0 kx_1320 (by decide +kernel) rfl (by decide) (Nat.le_of_ble_eq_true rfl) rfl dL_law_980 rfl (fun z1 S1 y1 => ?_)
  obtain ⟨rfl, q1⟩ := y1
  obtain ⟨⟨V1, o1⟩, hB⟩ := hB S1 q1
  refine kl_istore dL_law_983 (by decide) rfl ?_
  refine kl_sub [(5, _), (0, _), (1, _), (2, _), (3, _), (4, _)] rfl ?_
  refine kl_aload_n dL_law_985 rfl rfl ?_
  refine kl_aload_n dL_law_986 rfl rfl ?_
  refine kl_iload dL_law_987 rfl rfl ?_
  refine kl_iconst (x := nI 1) dL_law_989 (by decide) rfl ?_
  refine kl_addN dL_law_990 rfl ?_
  refine kl_scA (i := 6 * c + 1) hsc rfl (by omega) (by omega) dL_law_991 rfl ?_
  refine kl_aload_n dL_law_992 rfl rfl ?_
  refine kl_iload dL_law_993 rfl rfl ?_
  refine kl_iconst (x := nI 2) dL_law_995 (by decide) rfl ?_
  refine kl_addN dL_law_996 rfl ?_
  refine kl_scA (i := 6 * c + 2) hsc rfl (by omega) (by omega) dL_law_997 rfl ?_
  refine kl_aload_n dL_law_998 rfl rfl ?_
  refine kl_iload dL_law_999 rfl rfl ?_
  refine kl_iconst (x := nI 3) dL_law_1001 (by decide) rfl ?_
  refine kl_addN dL_law_1002 rfl ?_
  refine kl_scA (i := 6 * c + 3) hsc rfl (by omega) (by omega) dL_law_1003 rfl ?_
  refine kl_callV (n := 3) (M' := mX16_sign) hB o1 cl_X16 rfl kx_2796 kx_2797 kx_2798 kx_30 kx_2799 (by decide +kernel) rfl (by decide) (Nat.le_of_ble_eq_true rfl) rfl dL_law_1004 rfl (fun z2 S2 y2 => ?_)
  obtain ⟨w2, V2, f2, rfl, o2, v2, ho2, hv2, hI2⟩ := y2
  refine kl_istore dL_law_1007 (by decide) rfl ?_
  refine kl_sub [(6, _), (5, _), (0, _), (1, _), (2, _), (3, _), (4, _)] rfl ?_
  refine kl_aload_n dL_law_1009 rfl rfl ?_
  refine kl_callV (n := 0) (M' := mX16_thrown) (c_md_thrown (d := 17) o2 v2) o2 cl_X16 rfl kx_2726 kx_2727 kx_2728 kx_30 kx_2729 (by decide +kernel) rfl (by decide) (Nat.le_of_ble_eq_true rfl) rfl dL_law_1010 rfl (fun z3 S3 y3 => ?_)
  obtain ⟨rfl, e3⟩ := y3
  subst e3
  refine kl_iload dL_law_1013 rfl rfl ?_
  refine kl_icmp_eq (tgt := 1020) dL_law_1015 (by decide) rfl (fun _ => ?_) (fun h => absurd rfl h)
  refine kl_iload dL_law_1020 rfl rfl ?_
  refine kl_if_neN (tgt := 1037) (by omega) dL_law_1022 (by decide) rfl (fun h => ?_) (fun h => ?_)
  · refine kl_goto (tgt := 1411) dL_law_1037 (by decide) ?_
    refine kl_sub [(0, _), (1, _), (2, _), (3, _), (4, _)] rfl (hk S3 hI2)
  · refine kl_aload_n dL_law_1025 rfl rfl ?_
    refine kl_iconst (x := nI 0) dL_law_1026 (by decide) rfl ?_
    refine kl_laldN (i := 0) ho2 rfl (by decide) (by decide) dL_law_1027 rfl ?_
    refine kl_iload dL_law_1028 rfl rfl ?_
    refine kl_i2l dL_law_1030 rfl ?_
    refine kl_lif_eq (tgt := 1037) dL_law_1031 rfl dL_law_1032 (by decide) rfl (fun _ => ?_) (fun h9 => absurd (hv2 h) h9)
    refine kl_goto (tgt := 1411) dL_law_1037 (by decide) ?_
    refine kl_sub [(0, _), (1, _), (2, _), (3, _), (4, _)] rfl (hk S3 hI2)
set_option maxRecDepth 100000 in
set_option maxHeartbeats 800000 in
theorem l_l_seal {l : Launch} {G : ks_G} {hh : KH} {K : lwK} {o c L : Nat} {xs : Nat → Int32} {S : ks_S} {P9 : Option Value → ks_S → Prop} (htr : l.stackTraces = false) (hc : c ≤ 512) (hKB : lwKB K) (hsc : hh.2 = (L + 1, xs)) (hL : L ≤ 3072) (hi : 6 * c + 6 ≤ L) (hI : lwI K o c S) (hk : ∀ S', lwI K o (c + 1) S' → ks_L l G hh mL_law 18 1411 [(0, .ref ks_sc), (1, .ref 0), (2, .ref 290), (3, .ref o), (4, .int (nI (6 * c)))] [] S' P9) : ks_L l G hh mL_law 18 1040 [(0, .ref ks_sc), (1, .ref 0), (2, .ref 290), (3, .ref o), (4, .int (nI (6 * c)))] [] S P9 := by
  refine kl_aload_n dL_law_1040 rfl rfl ?_
  refine kl_aload_n dL_law_1041 rfl rfl ?_
  refine kl_iload dL_law_1042 rfl rfl ?_
  refine kl_iconst (x := nI 1) dL_law_1044 (by decide) rfl ?_
  refine kl_addN dL_law_1045 rfl ?_
  refine kl_scA (i := 6 * c + 1) hsc rfl (by omega) (by omega) dL_law_1046 rfl ?_
  refine kl_aload_n dL_law_1047 rfl rfl ?_
  obtain ⟨k, Q, hk4, hA, hB⟩ := op_seal (l := l) (G := G) htr hc (x := xs (6 * c + 1)) hKB hI
  refine kl_callH (n := 3) (M' := mL_seal) hA kx_1385 kx_1386 kx_0 kx_1387 (by decide +kernel) rfl (by decide) (Nat.le_of_ble_eq_true rfl) rfl dL_law_1048 rfl (fun z1 S1 y1 => ?_)
  obtain ⟨rfl, q1⟩ := y1
  obtain ⟨⟨V1, o1⟩, hB⟩ := hB S1 q1
  refine kl_istore dL_law_1051 (by decide) rfl ?_
  refine kl_sub [(5, _), (0, _), (1, _), (2, _), (3, _), (4, _)] rfl ?_
  refine kl_aload_n dL_law_1053 rfl rfl ?_
  refine kl_aload_n dL_law_1054 rfl rfl ?_
  refine kl_iload dL_law_1055 rfl rfl ?_
  refine kl_iconst (x := nI 1) dL_law_1057 (by decide) rfl ?_
  refine kl_addN dL_law_1058 rfl ?_
  refine kl_scA (i := 6 * c + 1) hsc rfl (by omega) (by omega) dL_law_1059 rfl ?_
  refine kl_callV (n := 1) (M' := mX16_seal) hB o1 cl_X16 rfl kx_2804 kx_2805 kx_2806 kx_30 kx_2807 (by decide +kernel) rfl (by decide) (Nat.le_of_ble_eq_true rfl) rfl dL_law_1060 rfl (fun z2 S2 y2 => ?_)
  obtain ⟨w2, V2, f2, rfl, o2, v2, ho2, hv2, hI2⟩ := y2
  refine kl_istore dL_law_1063 (by decide) rfl ?_
  refine kl_sub [(6, _), (5, _), (0, _), (1, _), (2, _), (3, _), (4, _)] rfl ?_
  refine kl_aload_n dL_law_1065 rfl rfl ?_
  refine kl_callV (n := 0) (M' := mX16_thrown) (c_md_thrown (d := 17) o2 v2) o2 cl_X16 rfl kx_2726 kx_2727 kx_2728 kx_30 kx_2729 (by decide +kernel) rfl (by decide) (Nat.le_of_ble_eq_true rfl) rfl dL_law_1066 rfl (fun z3 S3 y3 => ?_)
  obtain ⟨rfl, e3⟩ := y3
  subst e3
  refine kl_iload dL_law_1069 rfl rfl ?_
  refine kl_icmp_eq (tgt := 1076) dL_law_1071 (by decide) rfl (fun _ => ?_) (fun h => absurd rfl h)
  refine kl_iload dL_law_1076 rfl rfl ?_
  refine kl_if_neN (tgt := 1093) (by omega) dL_law_1078 (by decide) rfl (fun h => ?_) (fun h => ?_)
  · refine kl_goto (tgt := 1411) dL_law_1093 (by decide) ?_
    refine kl_sub [(0, _), (1, _), (2, _), (3, _), (4, _)] rfl (hk S3 hI2)
  · refine kl_aload_n dL_law_1081 rfl rfl ?_
    refine kl_iconst (x := nI 0) dL_law_1082 (by decide) rfl ?_
    refine kl_laldN (i := 0) ho2 rfl (by decide) (by decide) dL_law_1083 rfl ?_
    refine kl_iload dL_law_1084 rfl rfl ?_
    refine kl_i2l dL_law_1086 rfl ?_
    refine kl_lif_eq (tgt := 1093) dL_law_1087 rfl dL_law_1088 (by decide) rfl (fun _ => ?_) (fun h9 => absurd (hv2 h) h9)
    refine kl_goto (tgt := 1411) dL_law_1093 (by decide) ?_
    refine kl_sub [(0, _), (1, _), (2, _), (3, _), (4, _)] rfl (hk S3 hI2)
set_option maxRecDepth 100000 in
set_option maxHeartbeats 800000 in
theorem l_l_judge {l : Launch} {G : ks_G} {hh : KH} {K : lwK} {o c L : Nat} {xs : Nat → Int32} {S : ks_S} {P9 : Option Value → ks_S → Prop} (htr : l.stackTraces = false) (hc : c ≤ 512) (hJ : ∀ S, lwI K o c S → opI l G K o c yL_judge mL_judge hL_judge yX16_judge mX16_judge [] S) (hsc : hh.2 = (L + 1, xs)) (hL : L ≤ 3072) (hi : 6 * c + 6 ≤ L) (hI : lwI K o c S) (hk : ∀ S', lwI K o (c + 1) S' → ks_L l G hh mL_law 18 1411 [(0, .ref ks_sc), (1, .ref 0), (2, .ref 290), (3, .ref o), (4, .int (nI (6 * c)))] [] S' P9) : ks_L l G hh mL_law 18 1096 [(0, .ref ks_sc), (1, .ref 0), (2, .ref 290), (3, .ref o), (4, .int (nI (6 * c)))] [] S P9 := by
  refine kl_aload_n dL_law_1096 rfl rfl ?_
  refine kl_aload_n dL_law_1097 rfl rfl ?_
  obtain ⟨k, Q, hk4, hA, hB⟩ := hJ S hI
  refine kl_callH (n := 2) (M' := mL_judge) hA kx_1419 kx_1420 kx_0 kx_1421 (by decide +kernel) rfl (by decide) (Nat.le_of_ble_eq_true rfl) rfl dL_law_1098 rfl (fun z1 S1 y1 => ?_)
  obtain ⟨rfl, q1⟩ := y1
  obtain ⟨⟨V1, o1⟩, hB⟩ := hB S1 q1
  refine kl_istore dL_law_1101 (by decide) rfl ?_
  refine kl_sub [(5, _), (0, _), (1, _), (2, _), (3, _), (4, _)] rfl ?_
  refine kl_aload_n dL_law_1103 rfl rfl ?_
  refine kl_callV (n := 0) (M' := mX16_judge) hB o1 cl_X16 rfl kx_2808 kx_2809 kx_2810 kx_30 kx_2811 (by decide +kernel) rfl (by decide) (Nat.le_of_ble_eq_true rfl) rfl dL_law_1104 rfl (fun z2 S2 y2 => ?_)
  obtain ⟨w2, V2, f2, rfl, o2, v2, ho2, hv2, hI2⟩ := y2
  refine kl_istore dL_law_1107 (by decide) rfl ?_
  refine kl_sub [(6, _), (5, _), (0, _), (1, _), (2, _), (3, _), (4, _)] rfl ?_
  refine kl_aload_n dL_law_1109 rfl rfl ?_
  refine kl_callV (n := 0) (M' := mX16_thrown) (c_md_thrown (d := 17) o2 v2) o2 cl_X16 rfl kx_2726 kx_2727 kx_2728 kx_30 kx_2729 (by decide +kernel) rfl (by decide) (Nat.le_of_ble_eq_true rfl) rfl dL_law_1110 rfl (fun z3 S3 y3 => ?_)
  obtain ⟨rfl, e3⟩ := y3
  subst e3
  refine kl_iload dL_law_1113 rfl rfl ?_
  refine kl_icmp_eq (tgt := 1120) dL_law_1115 (by decide) rfl (fun _ => ?_) (fun h => absurd rfl h)
  refine kl_iload dL_law_1120 rfl rfl ?_
  refine kl_if_neN (tgt := 1137) (by omega) dL_law_1122 (by decide) rfl (fun h => ?_) (fun h => ?_)
  · refine kl_goto (tgt := 1411) dL_law_1137 (by decide) ?_
    refine kl_sub [(0, _), (1, _), (2, _), (3, _), (4, _)] rfl (hk S3 hI2)
  · refine kl_aload_n dL_law_1125 rfl rfl ?_
    refine kl_iconst (x := nI 0) dL_law_1126 (by decide) rfl ?_
    refine kl_laldN (i := 0) ho2 rfl (by decide) (by decide) dL_law_1127 rfl ?_
    refine kl_iload dL_law_1128 rfl rfl ?_
    refine kl_i2l dL_law_1130 rfl ?_
    refine kl_lif_eq (tgt := 1137) dL_law_1131 rfl dL_law_1132 (by decide) rfl (fun _ => ?_) (fun h9 => absurd (hv2 h) h9)
    refine kl_goto (tgt := 1411) dL_law_1137 (by decide) ?_
    refine kl_sub [(0, _), (1, _), (2, _), (3, _), (4, _)] rfl (hk S3 hI2)
set_option maxRecDepth 100000 in
set_option maxHeartbeats 800000 in
theorem l_l_tell {l : Launch} {G : ks_G} {hh : KH} {K : lwK} {o c L : Nat} {xs : Nat → Int32} {S : ks_S} {P9 : Option Value → ks_S → Prop} (htr : l.stackTraces = false) (hc : c ≤ 512) (hKA : lwKA K) (hsc : hh.2 = (L + 1, xs)) (hL : L ≤ 3072) (hi : 6 * c + 6 ≤ L) (hI : lwI K o c S) (hk : ∀ S', lwI K o (c + 1) S' → ks_L l G hh mL_law 18 1411 [(0, .ref ks_sc), (1, .ref 0), (2, .ref 290), (3, .ref o), (4, .int (nI (6 * c)))] [] S' P9) : ks_L l G hh mL_law 18 1140 [(0, .ref ks_sc), (1, .ref 0), (2, .ref 290), (3, .ref o), (4, .int (nI (6 * c)))] [] S P9 := by
  refine kl_aload_n dL_law_1140 rfl rfl ?_
  refine kl_aload_n dL_law_1141 rfl rfl ?_
  refine kl_iload dL_law_1142 rfl rfl ?_
  refine kl_iconst (x := nI 1) dL_law_1144 (by decide) rfl ?_
  refine kl_addN dL_law_1145 rfl ?_
  refine kl_scA (i := 6 * c + 1) hsc rfl (by omega) (by omega) dL_law_1146 rfl ?_
  refine kl_aload_n dL_law_1147 rfl rfl ?_
  obtain ⟨k, Q, hk4, hA, hB⟩ := op_tell (l := l) (G := G) htr hc (x := xs (6 * c + 1)) hKA hI
  refine kl_callH (n := 3) (M' := mL_tell) hA kx_1732 kx_1733 kx_0 kx_1734 (by decide +kernel) rfl (by decide) (Nat.le_of_ble_eq_true rfl) rfl dL_law_1148 rfl (fun z1 S1 y1 => ?_)
  obtain ⟨rfl, q1⟩ := y1
  obtain ⟨⟨V1, o1⟩, hB⟩ := hB S1 q1
  refine kl_istore dL_law_1151 (by decide) rfl ?_
  refine kl_sub [(5, _), (0, _), (1, _), (2, _), (3, _), (4, _)] rfl ?_
  refine kl_aload_n dL_law_1153 rfl rfl ?_
  refine kl_aload_n dL_law_1154 rfl rfl ?_
  refine kl_iload dL_law_1155 rfl rfl ?_
  refine kl_iconst (x := nI 1) dL_law_1157 (by decide) rfl ?_
  refine kl_addN dL_law_1158 rfl ?_
  refine kl_scA (i := 6 * c + 1) hsc rfl (by omega) (by omega) dL_law_1159 rfl ?_
  refine kl_callV (n := 1) (M' := mX16_tell) hB o1 cl_X16 rfl kx_2852 kx_2853 kx_2854 kx_30 kx_2855 (by decide +kernel) rfl (by decide) (Nat.le_of_ble_eq_true rfl) rfl dL_law_1160 rfl (fun z2 S2 y2 => ?_)
  obtain ⟨w2, V2, f2, rfl, o2, v2, ho2, hv2, hI2⟩ := y2
  refine kl_istore dL_law_1163 (by decide) rfl ?_
  refine kl_sub [(6, _), (5, _), (0, _), (1, _), (2, _), (3, _), (4, _)] rfl ?_
  refine kl_aload_n dL_law_1165 rfl rfl ?_
  refine kl_callV (n := 0) (M' := mX16_thrown) (c_md_thrown (d := 17) o2 v2) o2 cl_X16 rfl kx_2726 kx_2727 kx_2728 kx_30 kx_2729 (by decide +kernel) rfl (by decide) (Nat.le_of_ble_eq_true rfl) rfl dL_law_1166 rfl (fun z3 S3 y3 => ?_)
  obtain ⟨rfl, e3⟩ := y3
  subst e3
  refine kl_iload dL_law_1169 rfl rfl ?_
  refine kl_icmp_eq (tgt := 1176) dL_law_1171 (by decide) rfl (fun _ => ?_) (fun h => absurd rfl h)
  refine kl_iload dL_law_1176 rfl rfl ?_
  refine kl_if_neN (tgt := 1193) (by omega) dL_law_1178 (by decide) rfl (fun h => ?_) (fun h => ?_)
  · refine kl_goto (tgt := 1411) dL_law_1193 (by decide) ?_
    refine kl_sub [(0, _), (1, _), (2, _), (3, _), (4, _)] rfl (hk S3 hI2)
  · refine kl_aload_n dL_law_1181 rfl rfl ?_
    refine kl_iconst (x := nI 0) dL_law_1182 (by decide) rfl ?_
    refine kl_laldN (i := 0) ho2 rfl (by decide) (by decide) dL_law_1183 rfl ?_
    refine kl_iload dL_law_1184 rfl rfl ?_
    refine kl_i2l dL_law_1186 rfl ?_
    refine kl_lif_eq (tgt := 1193) dL_law_1187 rfl dL_law_1188 (by decide) rfl (fun _ => ?_) (fun h9 => absurd (hv2 h) h9)
    refine kl_goto (tgt := 1411) dL_law_1193 (by decide) ?_
    refine kl_sub [(0, _), (1, _), (2, _), (3, _), (4, _)] rfl (hk S3 hI2)
set_option maxRecDepth 100000 in
set_option maxHeartbeats 800000 in
theorem l_l_block {l : Launch} {G : ks_G} {hh : KH} {K : lwK} {o c L : Nat} {xs : Nat → Int32} {S : ks_S} {P9 : Option Value → ks_S → Prop} (htr : l.stackTraces = false) (hc : c ≤ 512) (hKB : lwKB K) (hsc : hh.2 = (L + 1, xs)) (hL : L ≤ 3072) (hi : 6 * c + 6 ≤ L) (hI : lwI K o c S) (hk : ∀ S', lwI K o (c + 1) S' → ks_L l G hh mL_law 18 1411 [(0, .ref ks_sc), (1, .ref 0), (2, .ref 290), (3, .ref o), (4, .int (nI (6 * c)))] [] S' P9) : ks_L l G hh mL_law 18 1196 [(0, .ref ks_sc), (1, .ref 0), (2, .ref 290), (3, .ref o), (4, .int (nI (6 * c)))] [] S P9 := by
  refine kl_aload_n dL_law_1196 rfl rfl ?_
  refine kl_aload_n dL_law_1197 rfl rfl ?_
  refine kl_iload dL_law_1198 rfl rfl ?_
  refine kl_iconst (x := nI 1) dL_law_1200 (by decide) rfl ?_
  refine kl_addN dL_law_1201 rfl ?_
  refine kl_scA (i := 6 * c + 1) hsc rfl (by omega) (by omega) dL_law_1202 rfl ?_
  refine kl_aload_n dL_law_1203 rfl rfl ?_
  refine kl_iload dL_law_1204 rfl rfl ?_
  refine kl_iconst (x := nI 2) dL_law_1206 (by decide) rfl ?_
  refine kl_addN dL_law_1207 rfl ?_
  refine kl_scA (i := 6 * c + 2) hsc rfl (by omega) (by omega) dL_law_1208 rfl ?_
  refine kl_aload_n dL_law_1209 rfl rfl ?_
  obtain ⟨k, Q, hk4, hA, hB⟩ := op_block (l := l) (G := G) htr hc (x := xs (6 * c + 1)) (y := xs (6 * c + 2)) hKB hI
  refine kl_callH (n := 4) (M' := mL_block) hA kx_1739 kx_1740 kx_0 kx_1741 (by decide +kernel) rfl (by decide) (Nat.le_of_ble_eq_true rfl) rfl dL_law_1210 rfl (fun z1 S1 y1 => ?_)
  obtain ⟨rfl, q1⟩ := y1
  obtain ⟨⟨V1, o1⟩, hB⟩ := hB S1 q1
  refine kl_istore dL_law_1213 (by decide) rfl ?_
  refine kl_sub [(5, _), (0, _), (1, _), (2, _), (3, _), (4, _)] rfl ?_
  refine kl_aload_n dL_law_1215 rfl rfl ?_
  refine kl_aload_n dL_law_1216 rfl rfl ?_
  refine kl_iload dL_law_1217 rfl rfl ?_
  refine kl_iconst (x := nI 1) dL_law_1219 (by decide) rfl ?_
  refine kl_addN dL_law_1220 rfl ?_
  refine kl_scA (i := 6 * c + 1) hsc rfl (by omega) (by omega) dL_law_1221 rfl ?_
  refine kl_aload_n dL_law_1222 rfl rfl ?_
  refine kl_iload dL_law_1223 rfl rfl ?_
  refine kl_iconst (x := nI 2) dL_law_1225 (by decide) rfl ?_
  refine kl_addN dL_law_1226 rfl ?_
  refine kl_scA (i := 6 * c + 2) hsc rfl (by omega) (by omega) dL_law_1227 rfl ?_
  refine kl_callV (n := 2) (M' := mX16_block) hB o1 cl_X16 rfl kx_2856 kx_2857 kx_2858 kx_30 kx_2859 (by decide +kernel) rfl (by decide) (Nat.le_of_ble_eq_true rfl) rfl dL_law_1228 rfl (fun z2 S2 y2 => ?_)
  obtain ⟨w2, V2, f2, rfl, o2, v2, ho2, hv2, hI2⟩ := y2
  refine kl_lstore dL_law_1231 (by decide) rfl ?_
  refine kl_sub [(6, _), (5, _), (0, _), (1, _), (2, _), (3, _), (4, _)] rfl ?_
  refine kl_aload_n dL_law_1233 rfl rfl ?_
  refine kl_callV (n := 0) (M' := mX16_thrown) (c_md_thrown (d := 17) o2 v2) o2 cl_X16 rfl kx_2726 kx_2727 kx_2728 kx_30 kx_2729 (by decide +kernel) rfl (by decide) (Nat.le_of_ble_eq_true rfl) rfl dL_law_1234 rfl (fun z3 S3 y3 => ?_)
  obtain ⟨rfl, e3⟩ := y3
  subst e3
  refine kl_iload dL_law_1237 rfl rfl ?_
  refine kl_icmp_eq (tgt := 1244) dL_law_1239 (by decide) rfl (fun _ => ?_) (fun h => absurd rfl h)
  refine kl_iload dL_law_1244 rfl rfl ?_
  refine kl_if_neN (tgt := 1260) (by omega) dL_law_1246 (by decide) rfl (fun h => ?_) (fun h => ?_)
  · refine kl_goto (tgt := 1411) dL_law_1260 (by decide) ?_
    refine kl_sub [(0, _), (1, _), (2, _), (3, _), (4, _)] rfl (hk S3 hI2)
  · refine kl_aload_n dL_law_1249 rfl rfl ?_
    refine kl_iconst (x := nI 0) dL_law_1250 (by decide) rfl ?_
    refine kl_laldN (i := 0) ho2 rfl (by decide) (by decide) dL_law_1251 rfl ?_
    refine kl_lload dL_law_1252 rfl rfl ?_
    refine kl_lif_eq (tgt := 1260) dL_law_1254 rfl dL_law_1255 (by decide) rfl (fun _ => ?_) (fun h9 => absurd (hv2 h) h9)
    refine kl_goto (tgt := 1411) dL_law_1260 (by decide) ?_
    refine kl_sub [(0, _), (1, _), (2, _), (3, _), (4, _)] rfl (hk S3 hI2)
set_option maxRecDepth 100000 in
set_option maxHeartbeats 800000 in
theorem l_l_coin {l : Launch} {G : ks_G} {hh : KH} {K : lwK} {o c L : Nat} {xs : Nat → Int32} {S : ks_S} {P9 : Option Value → ks_S → Prop} (htr : l.stackTraces = false) (hc : c ≤ 512) (hKC : lwKC K) (hsc : hh.2 = (L + 1, xs)) (hL : L ≤ 3072) (hi : 6 * c + 6 ≤ L) (hI : lwI K o c S) (hk : ∀ S', lwI K o (c + 1) S' → ks_L l G hh mL_law 18 1411 [(0, .ref ks_sc), (1, .ref 0), (2, .ref 290), (3, .ref o), (4, .int (nI (6 * c)))] [] S' P9) : ks_L l G hh mL_law 18 1263 [(0, .ref ks_sc), (1, .ref 0), (2, .ref 290), (3, .ref o), (4, .int (nI (6 * c)))] [] S P9 := by
  refine kl_aload_n dL_law_1263 rfl rfl ?_
  refine kl_aload_n dL_law_1264 rfl rfl ?_
  refine kl_iload dL_law_1265 rfl rfl ?_
  refine kl_iconst (x := nI 1) dL_law_1267 (by decide) rfl ?_
  refine kl_addN dL_law_1268 rfl ?_
  refine kl_scA (i := 6 * c + 1) hsc rfl (by omega) (by omega) dL_law_1269 rfl ?_
  refine kl_aload_n dL_law_1270 rfl rfl ?_
  refine kl_iload dL_law_1271 rfl rfl ?_
  refine kl_iconst (x := nI 2) dL_law_1273 (by decide) rfl ?_
  refine kl_addN dL_law_1274 rfl ?_
  refine kl_scA (i := 6 * c + 2) hsc rfl (by omega) (by omega) dL_law_1275 rfl ?_
  refine kl_aload_n dL_law_1276 rfl rfl ?_
  refine kl_iload dL_law_1277 rfl rfl ?_
  refine kl_iconst (x := nI 3) dL_law_1279 (by decide) rfl ?_
  refine kl_addN dL_law_1280 rfl ?_
  refine kl_scA (i := 6 * c + 3) hsc rfl (by omega) (by omega) dL_law_1281 rfl ?_
  refine kl_aload_n dL_law_1282 rfl rfl ?_
  obtain ⟨k, Q, hk4, hA, hB⟩ := op_coin (l := l) (G := G) htr hc (x := xs (6 * c + 1)) (y := xs (6 * c + 2)) (ix := xs (6 * c + 3)) hKC hI
  refine kl_callH (n := 5) (M' := mL_coin) hA kx_1753 kx_1754 kx_0 kx_1755 (by decide +kernel) rfl (by decide) (Nat.le_of_ble_eq_true rfl) rfl dL_law_1283 rfl (fun z1 S1 y1 => ?_)
  obtain ⟨rfl, q1⟩ := y1
  obtain ⟨⟨V1, o1⟩, hB⟩ := hB S1 q1
  refine kl_istore dL_law_1286 (by decide) rfl ?_
  refine kl_sub [(5, _), (0, _), (1, _), (2, _), (3, _), (4, _)] rfl ?_
  refine kl_aload_n dL_law_1288 rfl rfl ?_
  refine kl_aload_n dL_law_1289 rfl rfl ?_
  refine kl_iload dL_law_1290 rfl rfl ?_
  refine kl_iconst (x := nI 1) dL_law_1292 (by decide) rfl ?_
  refine kl_addN dL_law_1293 rfl ?_
  refine kl_scA (i := 6 * c + 1) hsc rfl (by omega) (by omega) dL_law_1294 rfl ?_
  refine kl_aload_n dL_law_1295 rfl rfl ?_
  refine kl_iload dL_law_1296 rfl rfl ?_
  refine kl_iconst (x := nI 2) dL_law_1298 (by decide) rfl ?_
  refine kl_addN dL_law_1299 rfl ?_
  refine kl_scA (i := 6 * c + 2) hsc rfl (by omega) (by omega) dL_law_1300 rfl ?_
  refine kl_aload_n dL_law_1301 rfl rfl ?_
  refine kl_iload dL_law_1302 rfl rfl ?_
  refine kl_iconst (x := nI 3) dL_law_1304 (by decide) rfl ?_
  refine kl_addN dL_law_1305 rfl ?_
  refine kl_scA (i := 6 * c + 3) hsc rfl (by omega) (by omega) dL_law_1306 rfl ?_
  refine kl_callV (n := 3) (M' := mX16_coin) hB o1 cl_X16 rfl kx_2860 kx_2861 kx_2862 kx_30 kx_2863 (by decide +kernel) rfl (by decide) (Nat.le_of_ble_eq_true rfl) rfl dL_law_1307 rfl (fun z2 S2 y2 => ?_)
  obtain ⟨w2, V2, f2, rfl, o2, v2, ho2, hv2, hI2⟩ := y2
  refine kl_lstore dL_law_1310 (by decide) rfl ?_
  refine kl_sub [(6, _), (5, _), (0, _), (1, _), (2, _), (3, _), (4, _)] rfl ?_
  refine kl_aload_n dL_law_1312 rfl rfl ?_
  refine kl_callV (n := 0) (M' := mX16_thrown) (c_md_thrown (d := 17) o2 v2) o2 cl_X16 rfl kx_2726 kx_2727 kx_2728 kx_30 kx_2729 (by decide +kernel) rfl (by decide) (Nat.le_of_ble_eq_true rfl) rfl dL_law_1313 rfl (fun z3 S3 y3 => ?_)
  obtain ⟨rfl, e3⟩ := y3
  subst e3
  refine kl_iload dL_law_1316 rfl rfl ?_
  refine kl_icmp_eq (tgt := 1323) dL_law_1318 (by decide) rfl (fun _ => ?_) (fun h => absurd rfl h)
  refine kl_iload dL_law_1323 rfl rfl ?_
  refine kl_if_neN (tgt := 1339) (by omega) dL_law_1325 (by decide) rfl (fun h => ?_) (fun h => ?_)
  · refine kl_goto (tgt := 1411) dL_law_1339 (by decide) ?_
    refine kl_sub [(0, _), (1, _), (2, _), (3, _), (4, _)] rfl (hk S3 hI2)
  · refine kl_aload_n dL_law_1328 rfl rfl ?_
    refine kl_iconst (x := nI 0) dL_law_1329 (by decide) rfl ?_
    refine kl_laldN (i := 0) ho2 rfl (by decide) (by decide) dL_law_1330 rfl ?_
    refine kl_lload dL_law_1331 rfl rfl ?_
    refine kl_lif_eq (tgt := 1339) dL_law_1333 rfl dL_law_1334 (by decide) rfl (fun _ => ?_) (fun h9 => absurd (hv2 h) h9)
    refine kl_goto (tgt := 1411) dL_law_1339 (by decide) ?_
    refine kl_sub [(0, _), (1, _), (2, _), (3, _), (4, _)] rfl (hk S3 hI2)
set_option maxRecDepth 100000 in
set_option maxHeartbeats 800000 in
theorem l_l_coins {l : Launch} {G : ks_G} {hh : KH} {K : lwK} {o c L : Nat} {xs : Nat → Int32} {S : ks_S} {P9 : Option Value → ks_S → Prop} (htr : l.stackTraces = false) (hc : c ≤ 512) (hKC : lwKC K) (hsc : hh.2 = (L + 1, xs)) (hL : L ≤ 3072) (hi : 6 * c + 6 ≤ L) (hI : lwI K o c S) (hk : ∀ S', lwI K o (c + 1) S' → ks_L l G hh mL_law 18 1411 [(0, .ref ks_sc), (1, .ref 0), (2, .ref 290), (3, .ref o), (4, .int (nI (6 * c)))] [] S' P9) : ks_L l G hh mL_law 18 1342 [(0, .ref ks_sc), (1, .ref 0), (2, .ref 290), (3, .ref o), (4, .int (nI (6 * c)))] [] S P9 := by
  refine kl_aload_n dL_law_1342 rfl rfl ?_
  obtain ⟨v, ⟨fs, h0⟩, hA, ⟨V1, o1⟩, hB⟩ := op_coins (l := l) (G := G) hKC hI
  refine kl_callV (n := 0) (M' := mX11_coins) hA h0 cl_X11 rfl kx_1102 kx_1103 kx_1104 kx_1 kx_1105 (by decide +kernel) rfl (by decide) (Nat.le_of_ble_eq_true rfl) rfl dL_law_1343 rfl (fun z1 S1 y1 => ?_)
  obtain ⟨rfl, e1⟩ := y1
  subst e1
  refine kl_aload_n dL_law_1346 rfl rfl ?_
  refine kl_callV (n := 0) (M' := mX16_coins) hB o1 cl_X16 rfl kx_2864 kx_2865 kx_2866 kx_30 kx_2867 (by decide +kernel) rfl (by decide) (Nat.le_of_ble_eq_true rfl) rfl dL_law_1347 rfl (fun z2 S2 y2 => ?_)
  obtain ⟨rfl, hI2⟩ := y2
  refine kl_lif_eq (tgt := 1411) dL_law_1350 rfl dL_law_1351 (by decide) rfl (fun _ => ?_) (fun h => absurd rfl h)
  refine kl_sub [(0, _), (1, _), (2, _), (3, _), (4, _)] rfl (hk S2 hI2)
set_option maxRecDepth 100000 in
set_option maxHeartbeats 800000 in
theorem l_l_word {l : Launch} {G : ks_G} {hh : KH} {K : lwK} {o c L : Nat} {xs : Nat → Int32} {S : ks_S} {P9 : Option Value → ks_S → Prop} (htr : l.stackTraces = false) (hc : c ≤ 512)  (hsc : hh.2 = (L + 1, xs)) (hL : L ≤ 3072) (hi : 6 * c + 6 ≤ L) (hI : lwI K o c S) (hk : ∀ S', lwI K o (c + 1) S' → ks_L l G hh mL_law 18 1411 [(0, .ref ks_sc), (1, .ref 0), (2, .ref 290), (3, .ref o), (4, .int (nI (6 * c)))] [] S' P9) : ks_L l G hh mL_law 18 1356 [(0, .ref ks_sc), (1, .ref 0), (2, .ref 290), (3, .ref o), (4, .int (nI (6 * c)))] [] S P9 := by
  refine kl_aload_n dL_law_1356 rfl rfl ?_
  refine kl_aload_n dL_law_1357 rfl rfl ?_
  refine kl_iload dL_law_1358 rfl rfl ?_
  refine kl_iconst (x := nI 1) dL_law_1360 (by decide) rfl ?_
  refine kl_addN dL_law_1361 rfl ?_
  refine kl_scA (i := 6 * c + 1) hsc rfl (by omega) (by omega) dL_law_1362 rfl ?_
  refine kl_aload_n dL_law_1363 rfl rfl ?_
  obtain ⟨k, Q, hk4, hA, hB⟩ := op_word (l := l) (G := G) htr hc (x := xs (6 * c + 1))  hI
  refine kl_callH (n := 3) (M' := mL_word) hA kx_1765 kx_1766 kx_0 kx_1767 (by decide +kernel) rfl (by decide) (Nat.le_of_ble_eq_true rfl) rfl dL_law_1364 rfl (fun z1 S1 y1 => ?_)
  obtain ⟨rfl, q1⟩ := y1
  obtain ⟨⟨V1, o1⟩, hB⟩ := hB S1 q1
  refine kl_istore dL_law_1367 (by decide) rfl ?_
  refine kl_sub [(5, _), (0, _), (1, _), (2, _), (3, _), (4, _)] rfl ?_
  refine kl_aload_n dL_law_1369 rfl rfl ?_
  refine kl_aload_n dL_law_1370 rfl rfl ?_
  refine kl_iload dL_law_1371 rfl rfl ?_
  refine kl_iconst (x := nI 1) dL_law_1373 (by decide) rfl ?_
  refine kl_addN dL_law_1374 rfl ?_
  refine kl_scA (i := 6 * c + 1) hsc rfl (by omega) (by omega) dL_law_1375 rfl ?_
  refine kl_callV (n := 1) (M' := mX16_word) hB o1 cl_X16 rfl kx_2868 kx_2869 kx_2870 kx_30 kx_2871 (by decide +kernel) rfl (by decide) (Nat.le_of_ble_eq_true rfl) rfl dL_law_1376 rfl (fun z2 S2 y2 => ?_)
  obtain ⟨w2, V2, f2, rfl, o2, v2, ho2, hv2, hI2⟩ := y2
  refine kl_lstore dL_law_1379 (by decide) rfl ?_
  refine kl_sub [(6, _), (5, _), (0, _), (1, _), (2, _), (3, _), (4, _)] rfl ?_
  refine kl_aload_n dL_law_1381 rfl rfl ?_
  refine kl_callV (n := 0) (M' := mX16_thrown) (c_md_thrown (d := 17) o2 v2) o2 cl_X16 rfl kx_2726 kx_2727 kx_2728 kx_30 kx_2729 (by decide +kernel) rfl (by decide) (Nat.le_of_ble_eq_true rfl) rfl dL_law_1382 rfl (fun z3 S3 y3 => ?_)
  obtain ⟨rfl, e3⟩ := y3
  subst e3
  refine kl_iload dL_law_1385 rfl rfl ?_
  refine kl_icmp_eq (tgt := 1392) dL_law_1387 (by decide) rfl (fun _ => ?_) (fun h => absurd rfl h)
  refine kl_iload dL_law_1392 rfl rfl ?_
  refine kl_if_neN (tgt := 1408) (by omega) dL_law_1394 (by decide) rfl (fun h => ?_) (fun h => ?_)
  · refine kl_goto (tgt := 1411) dL_law_1408 (by decide) ?_
    refine kl_sub [(0, _), (1, _), (2, _), (3, _), (4, _)] rfl (hk S3 hI2)
  · refine kl_aload_n dL_law_1397 rfl rfl ?_
    refine kl_iconst (x := nI 0) dL_law_1398 (by decide) rfl ?_
    refine kl_laldN (i := 0) ho2 rfl (by decide) (by decide) dL_law_1399 rfl ?_
    refine kl_lload dL_law_1400 rfl rfl ?_
    refine kl_lif_eq (tgt := 1408) dL_law_1402 rfl dL_law_1403 (by decide) rfl (fun _ => ?_) (fun h9 => absurd (hv2 h) h9)
    refine kl_goto (tgt := 1411) dL_law_1408 (by decide) ?_
    refine kl_sub [(0, _), (1, _), (2, _), (3, _), (4, _)] rfl (hk S3 hI2)
theorem lwI_more {K : lwK} {o c : Nat} {S : ks_S} (h : lwI K o c S) : lwI K o (c + 1) S := by
  obtain ⟨n, best, Bc, Br, C, R, t, q, dt, rs, Ds, D, T, V, F, hC, hR, hr, ho, r1, r2⟩ := h
  exact ⟨n, best, Bc, Br, C, R, t, q, dt, rs, Ds, D, T, V, F, hC, hR, hr, ho, by omega, by omega⟩
set_option maxRecDepth 100000 in
set_option maxHeartbeats 800000 in
theorem l_loop {l : Launch} {G : ks_G} {hh : KH} {K : lwK} {o L : Nat} {xs : Nat → Int32} {P9 : Option Value → ks_S → Prop} (htr : l.stackTraces = false) (hKA : lwKA K) (hKB : lwKB K) (hKC : lwKC K) (hm : lwM) (hJ : ∀ c S, c ≤ 512 → lwI K o c S → opI l G K o c yL_judge mL_judge hL_judge yX16_judge mX16_judge [] S) (hsc : hh.2 = (L + 1, xs)) (hL : L ≤ 3072) (hP : ∀ c S, c ≤ 513 → lwI K o c S → P9 (some (.int (nI 1))) S) : ∀ (u c : Nat) (S : ks_S), c + u = 513 → lwI K o c S → ks_L l G hh mL_law 18 23 [(0, .ref ks_sc), (1, .ref 0), (2, .ref 290), (3, .ref o), (4, .int (nI (6 * c)))] [] S P9 := by
  have step : ∀ (c : Nat) (S : ks_S), c ≤ 513 → (∀ (_ : 6 * c + 6 ≤ L) (S' : ks_S), lwI K o (c + 1) S' → ks_L l G hh mL_law 18 23 [(0, .ref ks_sc), (1, .ref 0), (2, .ref 290), (3, .ref o), (4, .int (nI (6 * (c + 1))))] [] S' P9) → lwI K o c S → ks_L l G hh mL_law 18 23 [(0, .ref ks_sc), (1, .ref 0), (2, .ref 290), (3, .ref o), (4, .int (nI (6 * c)))] [] S P9 := by
    intro c S hcc nxt hI
    have hP := fun S => hP c S hcc
    refine kl_iload dL_law_23 rfl rfl ?_
    refine kl_aload_n dL_law_25 rfl rfl ?_
    refine kl_scL hsc dL_law_26 rfl ?_
    refine kl_bipush (x := nI 6) dL_law_27 (by decide) rfl ?_
    refine kl_isub dL_law_29 rfl ?_
    refine kl_icmp_gt (tgt := 1417) dL_law_30 (by decide) rfl (fun h => ?_) (fun h => ?_)
    · refine kl_iconst (x := nI 1) dL_law_1417 (by decide) rfl ?_
      exact ks_X.law (ks_zret rfl rfl dL_law_1418 (hP S hI))
    · rw [Int32.lt_iff_toInt_lt, sub6 hL] at h
      by_cases h5 : 6 * c + 6 ≤ L
      · have hc : c ≤ 512 := by omega
        have hk : ∀ S', lwI K o (c + 1) S' → ks_L l G hh mL_law 18 1411 [(0, .ref ks_sc), (1, .ref 0), (2, .ref 290), (3, .ref o), (4, .int (nI (6 * c)))] [] S' P9 := fun S' hI' => by
          refine kl_iinc (y := nI (6 * (c + 1))) dL_law_1411 rfl (by show nI (6 * c) + nI 6 = nI (6 * (c + 1)); rw [nI_add, show 6 * c + 6 = 6 * (c + 1) by omega]) (by decide) rfl ?_
          refine kl_goto (tgt := 23) dL_law_1414 (by decide) ?_
          exact kl_sub [(0, .ref ks_sc), (1, .ref 0), (2, .ref 290), (3, .ref o), (4, .int (nI (6 * (c + 1))))] rfl (nxt h5 S' hI')
        refine kl_aload_n dL_law_33 rfl rfl ?_
        refine kl_iload dL_law_34 rfl rfl ?_
        refine kl_scA (i := 6 * c) hsc rfl (by omega) (by omega) dL_law_36 rfl ?_
        refine kl_bipush (x := nI 31) dL_law_37 (by decide) rfl ?_
        refine kl_iand dL_law_39 rfl ?_
        obtain ⟨j, hj, ej⟩ := msk31 (xs (6 * c))
        refine kl_ti ej ?_
        by_cases hj2 : j < 18
        · have hj3 : j = 0 ∨ j = 1 ∨ j = 2 ∨ j = 3 ∨ j = 4 ∨ j = 5 ∨ j = 6 ∨ j = 7 ∨ j = 8 ∨ j = 9 ∨ j = 10 ∨ j = 11 ∨ j = 12 ∨ j = 13 ∨ j = 14 ∨ j = 15 ∨ j = 16 ∨ j = 17 := by omega
          rcases hj3 with rfl | rfl | rfl | rfl | rfl | rfl | rfl | rfl | rfl | rfl | rfl | rfl | rfl | rfl | rfl | rfl | rfl | rfl
          · refine kl_tableIn (off := 88) (tgt := 128) dL_law_40 (by decide) (by decide) (by decide) (by decide) ?_
            exact l_l_feed htr hc hsc hL h5 hI hk
          · refine kl_tableIn (off := 192) (tgt := 232) dL_law_40 (by decide) (by decide) (by decide) (by decide) ?_
            exact l_l_end htr hc hsc hL h5 hI hk
          · refine kl_tableIn (off := 248) (tgt := 288) dL_law_40 (by decide) (by decide) (by decide) (by decide) ?_
            exact l_l_patch htr hc hsc hL h5 hI hk
          · refine kl_tableIn (off := 316) (tgt := 356) dL_law_40 (by decide) (by decide) (by decide) (by decide) ?_
            exact l_l_key htr hc hm hsc hL h5 hI hk
          · refine kl_tableIn (off := 384) (tgt := 424) dL_law_40 (by decide) (by decide) (by decide) (by decide) ?_
            exact l_l_digest htr hc hsc hL h5 hI hk
          · refine kl_tableIn (off := 440) (tgt := 480) dL_law_40 (by decide) (by decide) (by decide) (by decide) ?_
            exact l_l_open htr hc hsc hL h5 hI hk
          · refine kl_tableIn (off := 520) (tgt := 560) dL_law_40 (by decide) (by decide) (by decide) (by decide) ?_
            exact l_l_tx htr hc hsc hL h5 hI hk
          · refine kl_tableIn (off := 652) (tgt := 692) dL_law_40 (by decide) (by decide) (by decide) (by decide) ?_
            exact l_l_input htr hc hsc hL h5 hI hk
          · refine kl_tableIn (off := 776) (tgt := 816) dL_law_40 (by decide) (by decide) (by decide) (by decide) ?_
            exact l_l_output htr hc hsc hL h5 hI hk
          · refine kl_tableIn (off := 864) (tgt := 904) dL_law_40 (by decide) (by decide) (by decide) (by decide) ?_
            exact l_l_push htr hc hsc hL h5 hI hk
          · refine kl_tableIn (off := 920) (tgt := 960) dL_law_40 (by decide) (by decide) (by decide) (by decide) ?_
            exact l_l_sign htr hc hm hsc hL h5 hI hk
          · refine kl_tableIn (off := 1000) (tgt := 1040) dL_law_40 (by decide) (by decide) (by decide) (by decide) ?_
            exact l_l_seal htr hc hKB hsc hL h5 hI hk
          · refine kl_tableIn (off := 1056) (tgt := 1096) dL_law_40 (by decide) (by decide) (by decide) (by decide) ?_
            exact l_l_judge htr hc (fun S h => hJ c S hc h) hsc hL h5 hI hk
          · refine kl_tableIn (off := 1100) (tgt := 1140) dL_law_40 (by decide) (by decide) (by decide) (by decide) ?_
            exact l_l_tell htr hc hKA hsc hL h5 hI hk
          · refine kl_tableIn (off := 1156) (tgt := 1196) dL_law_40 (by decide) (by decide) (by decide) (by decide) ?_
            exact l_l_block htr hc hKB hsc hL h5 hI hk
          · refine kl_tableIn (off := 1223) (tgt := 1263) dL_law_40 (by decide) (by decide) (by decide) (by decide) ?_
            exact l_l_coin htr hc hKC hsc hL h5 hI hk
          · refine kl_tableIn (off := 1302) (tgt := 1342) dL_law_40 (by decide) (by decide) (by decide) (by decide) ?_
            exact l_l_coins htr hc hKC hsc hL h5 hI hk
          · refine kl_tableIn (off := 1316) (tgt := 1356) dL_law_40 (by decide) (by decide) (by decide) (by decide) ?_
            exact l_l_word htr hc hsc hL h5 hI hk
        · refine kl_tableOut (tgt := 1411) dL_law_40 (Or.inr ?_) (by decide) ?_
          · rw [nI_tI9 (by omega)]; omega
          · exact hk S (lwI_more hI)
      · exfalso
        have e : (nI (6 * c)).toInt = ((6 * c : Nat) : Int) := nI_tI9 (by have := hcc; omega)
        rw [e] at h
        omega
  intro u
  induction u with
  | zero => intro c S hu hI; exact step c S (by omega) (fun h => by omega) hI
  | succ u ih => intro c S hu hI; exact step c S (by omega) (fun h S' hI' => ih (c + 1) S' (by omega) hI') hI

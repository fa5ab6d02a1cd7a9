/-! RIPEMD-160, as both sides reckon it -/
def rp_f (r : Nat) (b c d : Int32) : Int32 := match r with
  | 0 => b ^^^ c ^^^ d
  | 1 => (b &&& c) ||| ((b ^^^ (-1)) &&& d)
  | 2 => (b ||| (c ^^^ (-1))) ^^^ d
  | 3 => (b &&& d) ||| (c &&& (d ^^^ (-1)))
  | _ => b ^^^ (c ||| (d ^^^ (-1)))
def rp_o (k : Nat) : Nat := (ks_row st_RIPE_ORDER k).toNatClampNeg
theorem rp_o_ok : ∀ k, k < 160 → ks_row st_RIPE_ORDER k = nI (rp_o k) ∧ rp_o k < 16 := by decide +kernel
def rp_k (k : Nat) : Int32 := ks_row st_RIPE_WORDS (k / 16)
def rp_t (k : Nat) : Int32 := ks_row st_RIPE_TURNS k
abbrev rp_T : Type := Int32 × Int32 × Int32 × Int32 × Int32
def rp_x (r k : Nat) (w : Nat → Int32) (t : rp_T) : Int32 := t.1 + rp_f r t.2.1 t.2.2.1 t.2.2.2.1 + w (rp_o k) + rp_k k
def rp_step (r k : Nat) (w : Nat → Int32) (t : rp_T) : rp_T := (t.2.2.2.2, (ks_sl (rp_x r k w t) (rp_t k) ||| ks_ur (rp_x r k w t) (32 - rp_t k)) + t.2.2.2.2, t.2.1, ks_sl t.2.2.1 10 ||| ks_ur t.2.2.1 22, t.2.2.2.1)
def rp_rd (sd : Nat) (w : Nat → Int32) (t : rp_T) : Nat → rp_T
  | 0 => t
  | i + 1 => rp_step (if sd = 0 then i / 16 else 4 - i / 16) (80 * sd + i) w (rp_rd sd w t i)
theorem rp_rd_congr {sd : Nat} (hsd : sd < 2) {w w' : Nat → Int32} {t : rp_T} (h : ∀ j, j < 16 → w j = w' j) : ∀ n, n ≤ 80 → rp_rd sd w t n = rp_rd sd w' t n
  | 0, _ => rfl
  | n + 1, hn => by
    show rp_step _ _ _ _ = rp_step _ _ _ _
    rw [rp_rd_congr hsd h n (by omega)]
    unfold rp_step rp_x
    rw [h _ (rp_o_ok _ (by omega)).2]
def rp_s (F : Nat → Int32) : rp_T := (F 0, F 1, F 2, F 3, F 4)
def rp_put (f : Nat → Int32) (i : Nat) (t : rp_T) : Nat → Int32 := va_up (va_up (va_up (va_up (va_up f i t.1) (i + 1) t.2.1) (i + 2) t.2.2.1) (i + 3) t.2.2.2.1) (i + 4) t.2.2.2.2
set_option maxRecDepth 100000 in
set_option maxHeartbeats 40000000 in
theorem l_ripeSide {l : Launch} {G : ks_G} {d : Nat} {S : ks_S} {h st wo si sd : Nat} {F f fs : Nat → Int32} {r3 r4 r5 : Value} (hh : S.2.2 h = some (.inr (9, [.ref st, .ref wo, .ref si, r3, r4, r5]))) (hs : S.2.2 st = some (kI 8 F)) (hw : S.2.2 wo = some (kI 64 f)) (hsi : S.2.2 si = some (kI 10 fs)) (hK : ks_stOK S) (hiB : si < ks_B) (hsd : sd = 0 ∨ sd = 1) : ∀ k q, q + k = 80 → ks_X l G mX6_ripeSide d 41 [(7, .int (nI q)), (2, .int (rp_rd sd f (rp_s F) q).1), (3, .int (rp_rd sd f (rp_s F) q).2.1), (4, .int (rp_rd sd f (rp_s F) q).2.2.1), (5, .int (rp_rd sd f (rp_s F) q).2.2.2.1), (6, .int (rp_rd sd f (rp_s F) q).2.2.2.2), (0, .ref h), (1, .int (nI sd))] [] S (fun z S' => z = none ∧ S' = ks_set S si (kI 10 (rp_put fs (5 * sd) (rp_rd sd f (rp_s F) 80)))) := by
  have n_h_si : h ≠ si := Ne.symm (ks_neO hsi hh)
  have hsd2 : sd < 2 := by omega
  intro k
  induction k with
  | zero =>
    intro q hq
    refine ks_iload dX6_ripeSide_41 rfl rfl ?_
    refine ks_bipush (x := 80) dX6_ripeSide_43 (by decide) rfl ?_
    refine ks_icmp_ge (tgt := 265) dX6_ripeSide_45 (by decide) rfl (fun hc => ?_) (fun hc => ?_)
    · rw [show q = 80 by omega]
      refine ks_aload_n dX6_ripeSide_265 rfl rfl ?_
      refine ks_getf (T := TX6) (kf := 2) kx_83 rfl in_X6 cl_X6 (by decide) hh rfl dX6_ripeSide_266 rfl ?_
      refine ks_iconst (x := 5) dX6_ripeSide_269 (by decide) rfl ?_
      refine ks_iload_n dX6_ripeSide_270 rfl rfl ?_
      refine ks_imul dX6_ripeSide_271 rfl ?_
      refine ks_iload_n dX6_ripeSide_272 rfl rfl ?_
      refine ks_iastN hiB hsi (i := 5 * sd) (pk_mul 5 sd) (by omega) (by decide) dX6_ripeSide_273 rfl ?_
      refine ks_aload_n dX6_ripeSide_274 rfl rfl ?_
      refine ks_getf (T := TX6) (kf := 2) kx_83 rfl in_X6 cl_X6 (by decide) ((ks_set_ne _ _ n_h_si).trans hh) rfl dX6_ripeSide_275 rfl ?_
      refine ks_iconst (x := 5) dX6_ripeSide_278 (by decide) rfl ?_
      refine ks_iload_n dX6_ripeSide_279 rfl rfl ?_
      refine ks_imul dX6_ripeSide_280 rfl ?_
      refine ks_iconst (x := 1) dX6_ripeSide_281 (by decide) rfl ?_
      refine ks_iadd dX6_ripeSide_282 rfl ?_
      refine ks_iload_n dX6_ripeSide_283 rfl rfl ?_
      refine ks_iastN hiB (ks_set_same _ _ _) (i := 5 * sd + 1) (by rw [show (5 : Int32) = nI 5 from rfl, pk_mul]; exact nI_add _ 1) (by omega) (by decide) dX6_ripeSide_284 rfl ?_
      refine ks_aload_n dX6_ripeSide_285 rfl rfl ?_
      refine ks_getf (T := TX6) (kf := 2) kx_83 rfl in_X6 cl_X6 (by decide) ((ks_set_ne _ _ n_h_si).trans ((ks_set_ne _ _ n_h_si).trans hh)) rfl dX6_ripeSide_286 rfl ?_
      refine ks_iconst (x := 5) dX6_ripeSide_289 (by decide) rfl ?_
      refine ks_iload_n dX6_ripeSide_290 rfl rfl ?_
      refine ks_imul dX6_ripeSide_291 rfl ?_
      refine ks_iconst (x := 2) dX6_ripeSide_292 (by decide) rfl ?_
      refine ks_iadd dX6_ripeSide_293 rfl ?_
      refine ks_iload dX6_ripeSide_294 rfl rfl ?_
      refine ks_iastN hiB (ks_set_same _ _ _) (i := 5 * sd + 2) (by rw [show (5 : Int32) = nI 5 from rfl, pk_mul]; exact nI_add _ 2) (by omega) (by decide) dX6_ripeSide_296 rfl ?_
      refine ks_aload_n dX6_ripeSide_297 rfl rfl ?_
      refine ks_getf (T := TX6) (kf := 2) kx_83 rfl in_X6 cl_X6 (by decide) ((ks_set_ne _ _ n_h_si).trans ((ks_set_ne _ _ n_h_si).trans ((ks_set_ne _ _ n_h_si).trans hh))) rfl dX6_ripeSide_298 rfl ?_
      refine ks_iconst (x := 5) dX6_ripeSide_301 (by decide) rfl ?_
      refine ks_iload_n dX6_ripeSide_302 rfl rfl ?_
      refine ks_imul dX6_ripeSide_303 rfl ?_
      refine ks_iconst (x := 3) dX6_ripeSide_304 (by decide) rfl ?_
      refine ks_iadd dX6_ripeSide_305 rfl ?_
      refine ks_iload dX6_ripeSide_306 rfl rfl ?_
      refine ks_iastN hiB (ks_set_same _ _ _) (i := 5 * sd + 3) (by rw [show (5 : Int32) = nI 5 from rfl, pk_mul]; exact nI_add _ 3) (by omega) (by decide) dX6_ripeSide_308 rfl ?_
      refine ks_aload_n dX6_ripeSide_309 rfl rfl ?_
      refine ks_getf (T := TX6) (kf := 2) kx_83 rfl in_X6 cl_X6 (by decide) ((ks_set_ne _ _ n_h_si).trans ((ks_set_ne _ _ n_h_si).trans ((ks_set_ne _ _ n_h_si).trans ((ks_set_ne _ _ n_h_si).trans hh)))) rfl dX6_ripeSide_310 rfl ?_
      refine ks_iconst (x := 5) dX6_ripeSide_313 (by decide) rfl ?_
      refine ks_iload_n dX6_ripeSide_314 rfl rfl ?_
      refine ks_imul dX6_ripeSide_315 rfl ?_
      refine ks_iconst (x := 4) dX6_ripeSide_316 (by decide) rfl ?_
      refine ks_iadd dX6_ripeSide_317 rfl ?_
      refine ks_iload dX6_ripeSide_318 rfl rfl ?_
      refine ks_iastN hiB (ks_set_same _ _ _) (i := 5 * sd + 4) (by rw [show (5 : Int32) = nI 5 from rfl, pk_mul]; exact nI_add _ 4) (by omega) (by decide) dX6_ripeSide_320 rfl ?_
      refine ks_ret rfl dX6_ripeSide_321 ?_
      exact ⟨rfl, by simp only [ks_set_set]; rfl⟩
    · exact absurd (nI_le (a := 80) (by omega) (by omega)) hc
  | succ k ih =>
    intro q hq
    obtain ⟨r, hr⟩ : ∃ r, r = (if sd = 0 then q / 16 else 4 - q / 16) := ⟨_, rfl⟩
    have hr4 : r ≤ 4 := by rw [hr]; split <;> omega
    have rest : ks_X l G mX6_ripeSide d 178 [(9, .int (rp_f r (rp_rd sd f (rp_s F) q).2.1 (rp_rd sd f (rp_s F) q).2.2.1 (rp_rd sd f (rp_s F) q).2.2.2.1)), (8, .int (nI (80 * sd + q))), (7, .int (nI q)), (2, .int (rp_rd sd f (rp_s F) q).1), (3, .int (rp_rd sd f (rp_s F) q).2.1), (4, .int (rp_rd sd f (rp_s F) q).2.2.1), (5, .int (rp_rd sd f (rp_s F) q).2.2.2.1), (6, .int (rp_rd sd f (rp_s F) q).2.2.2.2), (0, .ref h), (1, .int (nI sd))] [] S (fun z S' => z = none ∧ S' = ks_set S si (kI 10 (rp_put fs (5 * sd) (rp_rd sd f (rp_s F) 80)))) := by
      refine ks_iload_n dX6_ripeSide_178 rfl rfl ?_
      refine ks_iload dX6_ripeSide_179 rfl rfl ?_
      refine ks_iadd dX6_ripeSide_181 rfl ?_
      refine ks_aload_n dX6_ripeSide_182 rfl rfl ?_
      refine ks_getf (T := TX6) (kf := 1) kx_82 rfl in_X6 cl_X6 (by decide) hh rfl dX6_ripeSide_183 rfl ?_
      refine ks_gets (i := 9) rfl rfl kx_1237 dX6_ripeSide_186 rfl ?_
      refine ks_iload dX6_ripeSide_189 rfl rfl ?_
      refine ks_ialdN (hK 9 _ rfl) (i := 80 * sd + q) rfl (by show _ < 160; omega) (by decide) dX6_ripeSide_191 rfl ?_
      obtain ⟨ho1, ho2⟩ := rp_o_ok (80 * sd + q) (by omega)
      refine ks_ialdN hw ho1 (by omega) (by decide) dX6_ripeSide_192 rfl ?_
      refine ks_iadd dX6_ripeSide_193 rfl ?_
      refine ks_gets (i := 8) rfl rfl kx_1239 dX6_ripeSide_194 rfl ?_
      refine ks_iload dX6_ripeSide_197 rfl rfl ?_
      refine ks_bipush (x := 16) dX6_ripeSide_199 (by decide) rfl ?_
      refine ks_idiv dX6_ripeSide_201 (by decide) rfl ?_
      refine ks_ialdN (hK 8 _ rfl) (i := (80 * sd + q) / 16) (pk_div (a := 80 * sd + q) (d := 16) (by omega) (by decide) (by decide)) (by show _ < 10; omega) (by decide) dX6_ripeSide_202 rfl ?_
      refine ks_iadd dX6_ripeSide_203 rfl ?_
      refine ks_istore dX6_ripeSide_204 (by decide) rfl ?_
      refine ks_sub [(10, _), (9, _), (8, _), (7, _), (2, _), (3, _), (4, _), (5, _), (6, _), (0, _), (1, _)] rfl ?_
      refine ks_gets (i := 10) rfl rfl kx_1241 dX6_ripeSide_206 rfl ?_
      refine ks_iload dX6_ripeSide_209 rfl rfl ?_
      refine ks_ialdN (hK 10 _ rfl) (i := 80 * sd + q) rfl (by show _ < 160; omega) (by decide) dX6_ripeSide_211 rfl ?_
      refine ks_istore dX6_ripeSide_212 (by decide) rfl ?_
      refine ks_sub [(11, _), (9, _), (8, _), (7, _), (2, _), (3, _), (4, _), (5, _), (6, _), (0, _), (1, _), (10, _)] rfl ?_
      refine ks_iload dX6_ripeSide_214 rfl rfl ?_
      refine ks_iload dX6_ripeSide_216 rfl rfl ?_
      refine ks_ishl dX6_ripeSide_218 rfl ?_
      refine ks_iload dX6_ripeSide_219 rfl rfl ?_
      refine ks_bipush (x := 32) dX6_ripeSide_221 (by decide) rfl ?_
      refine ks_iload dX6_ripeSide_223 rfl rfl ?_
      refine ks_isub dX6_ripeSide_225 rfl ?_
      refine ks_iushr dX6_ripeSide_226 rfl ?_
      refine ks_ior dX6_ripeSide_227 rfl ?_
      refine ks_iload dX6_ripeSide_228 rfl rfl ?_
      refine ks_iadd dX6_ripeSide_230 rfl ?_
      refine ks_istore dX6_ripeSide_231 (by decide) rfl ?_
      refine ks_sub [(10, _), (9, _), (8, _), (7, _), (2, _), (3, _), (4, _), (5, _), (6, _), (0, _), (1, _), (11, _)] rfl ?_
      refine ks_iload dX6_ripeSide_233 rfl rfl ?_
      refine ks_istore_n dX6_ripeSide_235 (by decide) rfl ?_
      refine ks_sub [(2, _), (9, _), (8, _), (7, _), (3, _), (4, _), (5, _), (6, _), (0, _), (1, _), (10, _), (11, _)] rfl ?_
      refine ks_iload dX6_ripeSide_236 rfl rfl ?_
      refine ks_istore dX6_ripeSide_238 (by decide) rfl ?_
      refine ks_sub [(6, _), (9, _), (8, _), (7, _), (2, _), (3, _), (4, _), (5, _), (0, _), (1, _), (10, _), (11, _)] rfl ?_
      refine ks_iload dX6_ripeSide_240 rfl rfl ?_
      refine ks_bipush (x := 10) dX6_ripeSide_242 (by decide) rfl ?_
      refine ks_ishl dX6_ripeSide_244 rfl ?_
      refine ks_iload dX6_ripeSide_245 rfl rfl ?_
      refine ks_bipush (x := 22) dX6_ripeSide_247 (by decide) rfl ?_
      refine ks_iushr dX6_ripeSide_249 rfl ?_
      refine ks_ior dX6_ripeSide_250 rfl ?_
      refine ks_istore dX6_ripeSide_251 (by decide) rfl ?_
      refine ks_sub [(5, _), (9, _), (8, _), (7, _), (2, _), (3, _), (4, _), (6, _), (0, _), (1, _), (10, _), (11, _)] rfl ?_
      refine ks_iload_n dX6_ripeSide_253 rfl rfl ?_
      refine ks_istore dX6_ripeSide_254 (by decide) rfl ?_
      refine ks_sub [(4, _), (9, _), (8, _), (7, _), (2, _), (3, _), (5, _), (6, _), (0, _), (1, _), (10, _), (11, _)] rfl ?_
      refine ks_iload dX6_ripeSide_256 rfl rfl ?_
      refine ks_istore_n dX6_ripeSide_258 (by decide) rfl ?_
      refine ks_sub [(3, _), (9, _), (8, _), (7, _), (2, _), (4, _), (5, _), (6, _), (0, _), (1, _), (10, _), (11, _)] rfl ?_
      refine ks_iinc (y := nI (q + 1)) dX6_ripeSide_259 rfl (ks_p1 q) (by decide) rfl ?_
      refine ks_goto (tgt := 41) dX6_ripeSide_262 (by decide) ?_
      have h9 := ih (q + 1) (by omega)
      rw [show rp_rd sd f (rp_s F) (q + 1) = rp_step r (80 * sd + q) f (rp_rd sd f (rp_s F) q) by rw [hr]; rfl] at h9
      exact ks_sub _ rfl h9
    have sw : ∀ x : Int32, x = nI r → ks_X l G mX6_ripeSide d 76 [(8, .int (nI (80 * sd + q))), (7, .int (nI q)), (2, .int (rp_rd sd f (rp_s F) q).1), (3, .int (rp_rd sd f (rp_s F) q).2.1), (4, .int (rp_rd sd f (rp_s F) q).2.2.1), (5, .int (rp_rd sd f (rp_s F) q).2.2.2.1), (6, .int (rp_rd sd f (rp_s F) q).2.2.2.2), (0, .ref h), (1, .int (nI sd))] [.int x] S (fun z S' => z = none ∧ S' = ks_set S si (kI 10 (rp_put fs (5 * sd) (rp_rd sd f (rp_s F) 80)))) := by
      intro x hx
      have h5 : r = 0 ∨ r = 1 ∨ r = 2 ∨ r = 3 ∨ r = 4 := by omega
      rcases h5 with h5 | h5 | h5 | h5 | h5
      · rw [hx, h5]
        rw [h5] at rest
        refine ks_ti (y := (0 : Int32)) (by decide) ?_
        refine ks_tableIn (off := 32) (tgt := 108) dX6_ripeSide_76 (by decide) (by decide) (by decide) (by decide) ?_
        refine ks_iload_n dX6_ripeSide_108 rfl rfl ?_
        refine ks_iload dX6_ripeSide_109 rfl rfl ?_
        refine ks_ixor dX6_ripeSide_111 rfl ?_
        refine ks_iload dX6_ripeSide_112 rfl rfl ?_
        refine ks_ixor dX6_ripeSide_114 rfl ?_
        refine ks_istore dX6_ripeSide_115 (by decide) rfl ?_
        refine ks_sub [(9, _), (8, _), (7, _), (2, _), (3, _), (4, _), (5, _), (6, _), (0, _), (1, _)] rfl ?_
        refine ks_goto (tgt := 178) dX6_ripeSide_117 (by decide) ?_
        exact ks_sub _ rfl rest
      · rw [hx, h5]
        rw [h5] at rest
        refine ks_ti (y := (1 : Int32)) (by decide) ?_
        refine ks_tableIn (off := 44) (tgt := 120) dX6_ripeSide_76 (by decide) (by decide) (by decide) (by decide) ?_
        refine ks_iload_n dX6_ripeSide_120 rfl rfl ?_
        refine ks_iload dX6_ripeSide_121 rfl rfl ?_
        refine ks_iand dX6_ripeSide_123 rfl ?_
        refine ks_iload_n dX6_ripeSide_124 rfl rfl ?_
        refine ks_iconst (x := (-1)) dX6_ripeSide_125 (by decide) rfl ?_
        refine ks_ixor dX6_ripeSide_126 rfl ?_
        refine ks_iload dX6_ripeSide_127 rfl rfl ?_
        refine ks_iand dX6_ripeSide_129 rfl ?_
        refine ks_ior dX6_ripeSide_130 rfl ?_
        refine ks_istore dX6_ripeSide_131 (by decide) rfl ?_
        refine ks_sub [(9, _), (8, _), (7, _), (2, _), (3, _), (4, _), (5, _), (6, _), (0, _), (1, _)] rfl ?_
        refine ks_goto (tgt := 178) dX6_ripeSide_133 (by decide) ?_
        exact ks_sub _ rfl rest
      · rw [hx, h5]
        rw [h5] at rest
        refine ks_ti (y := (2 : Int32)) (by decide) ?_
        refine ks_tableIn (off := 60) (tgt := 136) dX6_ripeSide_76 (by decide) (by decide) (by decide) (by decide) ?_
        refine ks_iload_n dX6_ripeSide_136 rfl rfl ?_
        refine ks_iload dX6_ripeSide_137 rfl rfl ?_
        refine ks_iconst (x := (-1)) dX6_ripeSide_139 (by decide) rfl ?_
        refine ks_ixor dX6_ripeSide_140 rfl ?_
        refine ks_ior dX6_ripeSide_141 rfl ?_
        refine ks_iload dX6_ripeSide_142 rfl rfl ?_
        refine ks_ixor dX6_ripeSide_144 rfl ?_
        refine ks_istore dX6_ripeSide_145 (by decide) rfl ?_
        refine ks_sub [(9, _), (8, _), (7, _), (2, _), (3, _), (4, _), (5, _), (6, _), (0, _), (1, _)] rfl ?_
        refine ks_goto (tgt := 178) dX6_ripeSide_147 (by decide) ?_
        exact ks_sub _ rfl rest
      · rw [hx, h5]
        rw [h5] at rest
        refine ks_ti (y := (3 : Int32)) (by decide) ?_
        refine ks_tableIn (off := 74) (tgt := 150) dX6_ripeSide_76 (by decide) (by decide) (by decide) (by decide) ?_
        refine ks_iload_n dX6_ripeSide_150 rfl rfl ?_
        refine ks_iload dX6_ripeSide_151 rfl rfl ?_
        refine ks_iand dX6_ripeSide_153 rfl ?_
        refine ks_iload dX6_ripeSide_154 rfl rfl ?_
        refine ks_iload dX6_ripeSide_156 rfl rfl ?_
        refine ks_iconst (x := (-1)) dX6_ripeSide_158 (by decide) rfl ?_
        refine ks_ixor dX6_ripeSide_159 rfl ?_
        refine ks_iand dX6_ripeSide_160 rfl ?_
        refine ks_ior dX6_ripeSide_161 rfl ?_
        refine ks_istore dX6_ripeSide_162 (by decide) rfl ?_
        refine ks_sub [(9, _), (8, _), (7, _), (2, _), (3, _), (4, _), (5, _), (6, _), (0, _), (1, _)] rfl ?_
        refine ks_goto (tgt := 178) dX6_ripeSide_164 (by decide) ?_
        exact ks_sub _ rfl rest
      · rw [hx, h5]
        rw [h5] at rest
        refine ks_ti (y := (4 : Int32)) (by decide) ?_
        refine ks_tableOut (tgt := 167) dX6_ripeSide_76 (by decide) (by decide) ?_
        refine ks_iload_n dX6_ripeSide_167 rfl rfl ?_
        refine ks_iload dX6_ripeSide_168 rfl rfl ?_
        refine ks_iload dX6_ripeSide_170 rfl rfl ?_
        refine ks_iconst (x := (-1)) dX6_ripeSide_172 (by decide) rfl ?_
        refine ks_ixor dX6_ripeSide_173 rfl ?_
        refine ks_ior dX6_ripeSide_174 rfl ?_
        refine ks_ixor dX6_ripeSide_175 rfl ?_
        refine ks_istore dX6_ripeSide_176 (by decide) rfl ?_
        refine ks_sub [(9, _), (8, _), (7, _), (2, _), (3, _), (4, _), (5, _), (6, _), (0, _), (1, _)] rfl ?_
        exact ks_sub _ rfl rest
    refine ks_iload dX6_ripeSide_41 rfl rfl ?_
    refine ks_bipush (x := 80) dX6_ripeSide_43 (by decide) rfl ?_
    refine ks_icmp_ge (tgt := 265) dX6_ripeSide_45 (by decide) rfl (fun hc => ?_) (fun hc => ?_)
    · exact absurd hc (nI_ge (b := 80) (by omega) (by decide))
    · refine ks_bipush (x := 80) dX6_ripeSide_48 (by decide) rfl ?_
      refine ks_iload_n dX6_ripeSide_50 rfl rfl ?_
      refine ks_imul dX6_ripeSide_51 rfl ?_
      refine ks_iload dX6_ripeSide_52 rfl rfl ?_
      refine ks_iadd dX6_ripeSide_54 rfl ?_
      refine ks_ti (y := nI (80 * sd + q)) (by rw [show (80 : Int32) = nI 80 from rfl, pk_mul, nI_add]) ?_
      refine ks_istore dX6_ripeSide_55 (by decide) rfl ?_
      refine ks_sub [(8, _), (7, _), (2, _), (3, _), (4, _), (5, _), (6, _), (0, _), (1, _)] rfl ?_
      refine ks_iload_n dX6_ripeSide_57 rfl rfl ?_
      refine ks_if_ne (tgt := 69) dX6_ripeSide_58 (by decide) rfl (fun hc2 => ?_) (fun hc2 => ?_)
      · have h1 : sd = 1 := hsd.elim (fun z => absurd (by rw [z]; rfl) hc2) id
        refine ks_iconst (x := 4) dX6_ripeSide_69 (by decide) rfl ?_
        refine ks_iload dX6_ripeSide_70 rfl rfl ?_
        refine ks_bipush (x := 16) dX6_ripeSide_72 (by decide) rfl ?_
        refine ks_idiv dX6_ripeSide_74 (by decide) rfl ?_
        refine ks_isub dX6_ripeSide_75 rfl ?_
        exact ks_sub _ rfl (sw _ (by rw [hr, if_neg (by omega), show (16 : Int32) = nI 16 from rfl, pk_div (by omega) (by decide) (by decide), show (4 : Int32) = nI 4 from rfl, pk_sub (by omega)]))
      · have h1 : sd = 0 := hsd.elim id (fun z => by rw [z] at hc2; exact absurd hc2 (by decide))
        refine ks_iload dX6_ripeSide_61 rfl rfl ?_
        refine ks_bipush (x := 16) dX6_ripeSide_63 (by decide) rfl ?_
        refine ks_idiv dX6_ripeSide_65 (by decide) rfl ?_
        refine ks_goto (tgt := 76) dX6_ripeSide_66 (by decide) ?_
        exact ks_sub _ rfl (sw _ (by rw [hr, if_pos h1, show (16 : Int32) = nI 16 from rfl, pk_div (by omega) (by decide) (by decide)]))
set_option maxRecDepth 100000 in
set_option maxHeartbeats 40000000 in
theorem c_ripeSide {l : Launch} {G : ks_G} {d : Nat} {S : ks_S} {h st wo si sd : Nat} {F f fs : Nat → Int32} {r3 r4 r5 : Value} (hh : S.2.2 h = some (.inr (9, [.ref st, .ref wo, .ref si, r3, r4, r5]))) (hs : S.2.2 st = some (kI 8 F)) (hw : S.2.2 wo = some (kI 64 f)) (hsi : S.2.2 si = some (kI 10 fs)) (hK : ks_stOK S) (hiB : si < ks_B) (hsd : sd = 0 ∨ sd = 1) : ks_P l G yX6_ripeSide mX6_ripeSide d [.ref h, .int (nI sd)] S (fun z S' => z = none ∧ S' = ks_set S si (kI 10 (rp_put fs (5 * sd) (rp_rd sd f (rp_s F) 80)))) := by
  refine ks_of (by decide) rfl rfl (Nat.le_of_ble_eq_true rfl) ?_
  show ks_X l G mX6_ripeSide d 0 [(0, .ref h), (1, .int (nI sd))] [] S _
  refine ks_aload_n dX6_ripeSide_0 rfl rfl ?_
  refine ks_getf (T := TX6) (kf := 0) kx_81 rfl in_X6 cl_X6 (by decide) hh rfl dX6_ripeSide_1 rfl ?_
  refine ks_iconst (x := 0) dX6_ripeSide_4 (by decide) rfl ?_
  refine ks_ialdN hs (i := 0) rfl (by decide) (by decide) dX6_ripeSide_5 rfl ?_
  refine ks_istore_n dX6_ripeSide_6 (by decide) rfl ?_
  refine ks_sub [(2, _), (0, _), (1, _)] rfl ?_
  refine ks_aload_n dX6_ripeSide_7 rfl rfl ?_
  refine ks_getf (T := TX6) (kf := 0) kx_81 rfl in_X6 cl_X6 (by decide) hh rfl dX6_ripeSide_8 rfl ?_
  refine ks_iconst (x := 1) dX6_ripeSide_11 (by decide) rfl ?_
  refine ks_ialdN hs (i := 1) rfl (by decide) (by decide) dX6_ripeSide_12 rfl ?_
  refine ks_istore_n dX6_ripeSide_13 (by decide) rfl ?_
  refine ks_sub [(3, _), (0, _), (1, _), (2, _)] rfl ?_
  refine ks_aload_n dX6_ripeSide_14 rfl rfl ?_
  refine ks_getf (T := TX6) (kf := 0) kx_81 rfl in_X6 cl_X6 (by decide) hh rfl dX6_ripeSide_15 rfl ?_
  refine ks_iconst (x := 2) dX6_ripeSide_18 (by decide) rfl ?_
  refine ks_ialdN hs (i := 2) rfl (by decide) (by decide) dX6_ripeSide_19 rfl ?_
  refine ks_istore dX6_ripeSide_20 (by decide) rfl ?_
  refine ks_sub [(4, _), (0, _), (1, _), (2, _), (3, _)] rfl ?_
  refine ks_aload_n dX6_ripeSide_22 rfl rfl ?_
  refine ks_getf (T := TX6) (kf := 0) kx_81 rfl in_X6 cl_X6 (by decide) hh rfl dX6_ripeSide_23 rfl ?_
  refine ks_iconst (x := 3) dX6_ripeSide_26 (by decide) rfl ?_
  refine ks_ialdN hs (i := 3) rfl (by decide) (by decide) dX6_ripeSide_27 rfl ?_
  refine ks_istore dX6_ripeSide_28 (by decide) rfl ?_
  refine ks_sub [(5, _), (0, _), (1, _), (2, _), (3, _), (4, _)] rfl ?_
  refine ks_aload_n dX6_ripeSide_30 rfl rfl ?_
  refine ks_getf (T := TX6) (kf := 0) kx_81 rfl in_X6 cl_X6 (by decide) hh rfl dX6_ripeSide_31 rfl ?_
  refine ks_iconst (x := 4) dX6_ripeSide_34 (by decide) rfl ?_
  refine ks_ialdN hs (i := 4) rfl (by decide) (by decide) dX6_ripeSide_35 rfl ?_
  refine ks_istore dX6_ripeSide_36 (by decide) rfl ?_
  refine ks_sub [(6, _), (0, _), (1, _), (2, _), (3, _), (4, _), (5, _)] rfl ?_
  refine ks_iconst (x := 0) dX6_ripeSide_38 (by decide) rfl ?_
  refine ks_istore dX6_ripeSide_39 (by decide) rfl ?_
  refine ks_sub [(7, _), (0, _), (1, _), (2, _), (3, _), (4, _), (5, _), (6, _)] rfl ?_
  exact ks_sub _ rfl (l_ripeSide hh hs hw hsi hK hiB hsd 80 0 rfl)

/-! MACHINE: signatures against keys -/
theorem cuR.of2 {R R2 : Nat → Nat} (h : cuR R) (hj : ∀ j, 6 ≤ j → j < 10 ∨ 13 ≤ j → R2 j = R j) : cuR R2 := by
  refine ⟨(hj 6 (by decide) (by decide)).trans h.1, ?_, fun i hi => ?_, fun i h0 hi => ?_⟩
  · have := h.2.1; unfold ptR at this ⊢; rw [hj _ (by omega) (by omega), hj _ (by omega) (by omega), hj _ (by omega) (by omega)]; exact this
  · rw [← h.2.2.1 i hi]; unfold ptR; rw [hj _ (by omega) (by omega), hj _ (by omega) (by omega), hj _ (by omega) (by omega)]
  · have := h.2.2.2 i h0 hi; unfold ptR at this ⊢; rw [hj _ (by omega) (by omega), hj _ (by omega) (by omega), hj _ (by omega) (by omega)]; exact this
theorem tk_cons {xs : List (List Nat)} {k0 kc a : Nat} (h : a < kc) (h2 : k0 + kc ≤ xs.length) : ((xs.drop k0).take kc).drop a = xs.getD (k0 + a) [] :: ((xs.drop k0).take kc).drop (a + 1) := by
  have hl : a < ((xs.drop k0).take kc).length := by rw [List.length_take, List.length_drop]; omega
  rw [List.drop_eq_getElem_cons hl]
  congr 1
  rw [List.getElem_take, List.getElem_drop]
  simp [List.getD, show k0 + a < xs.length by omega]
theorem tk_len {xs : List (List Nat)} {k0 kc a : Nat} (h2 : k0 + kc ≤ xs.length) : (((xs.drop k0).take kc).drop a).length = kc - a := by
  rw [List.length_drop, List.length_take, List.length_drop]
  omega
theorem tk_nil {xs : List (List Nat)} {k0 kc a : Nat} (h : kc ≤ a) : ((xs.drop k0).take kc).drop a = [] := by
  apply List.drop_eq_nil_of_le
  rw [List.length_take]
  omega
abbrev LAk : List Nat := [14, 16, 18, 19, 8, 9, 10, 11, 28, 39, 40]
def akI (S S1 : ks_S) : Prop := ks_up S S1 LAk ∧ cuI S1 ∧ hsO S1 ∧ (∃ g, kO g ∧ S1.2.2 28 = some (kB 32 g)) ∧ (∃ ob, bfS S1 39 40 8000 ob)
theorem kyY_lt (hma : mathOK) {g : Nat → Nat} {i c : Nat} (h : kyF g i c = true) : kyY g i c < pP := by
  obtain ⟨h1, h2, h3, h4⟩ := of_decide_eq_true h
  unfold kyY
  split
  · next hw => exact h3 hw
  · unfold kyE
    have y0 := hma.2.2.1 _ h2
    have y1 : rtL (ky3 (beN g (i + 1))) 256 1 < pP := rtL_lt (by decide)
    split
    · exact y1
    · omega
theorem beN_L {g : Nat → Nat} {h : List Nat} (e : bytL g 0 32 = h) : beN g 0 = beN (Fl h) 0 := by
  subst e
  exact beN_c (fun k hk => by rw [show 0 + k = k by omega, Fl_at g 0 32 hk, Nat.zero_add])
set_option maxRecDepth 100000 in
set_option maxHeartbeats 800000 in
theorem l_ak311 {l : Launch} {G : ks_G} {d : Nat} {S : ks_S} {kc sc tk op a b : Nat} {t : Bool} {P : Option Value → ks_S → Prop} (ha : a < kc) (hb : b < sc) (hk20 : kc ≤ 20) (h : ks_X l G mX7_ask (d + 5) 59 [(0, .ref 27), (1, .int (nI op)), (2, .int (nI tk)), (3, .int (nI (kc - (a + 1)))), (4, .int (nI (sc - (b + (if t then 1 else 0))))), (5, .int (nI (a + 1)))] [] S P) : ks_X l G mX7_ask (d + 5) 311 [(0, .ref 27), (1, .int (nI op)), (2, .int (nI tk)), (3, .int (nI (kc - a))), (4, .int (nI (sc - b))), (5, .int (nI a)), (9, .int (ks_bo t))] [] S P := by
  cases t with
  | false =>
    refine ks_decN (e := kc - (a + 1)) dX7_ask_311 rfl (by decide) (by omega) (by decide) rfl ?_
    refine ks_sub [(3, _), (0, _), (1, _), (2, _), (4, _), (5, _), (9, _)] rfl ?_
    refine ks_iload dX7_ask_314 rfl rfl ?_
    refine ks_iload dX7_ask_316 rfl rfl ?_
    refine ks_if_eqZ (tgt := 325) dX7_ask_318 (by decide) rfl (fun h1 => ?_) (fun h1 => ?_)
    · refine ks_iconst (x := nI 0) dX7_ask_325 (by decide) rfl ?_
      refine ks_subN (by omega) dX7_ask_326 rfl ?_
      refine ks_istore dX7_ask_327 (by decide) rfl ?_
      refine ks_sub [(4, _), (0, _), (1, _), (2, _), (3, _), (5, _), (9, _)] rfl ?_
      refine ks_incN (c := 1) (e := a + 1) dX7_ask_329 rfl (by decide) rfl (by decide) rfl ?_
      refine ks_sub [(5, _), (0, _), (1, _), (2, _), (3, _), (4, _), (9, _)] rfl ?_
      refine ks_goto (tgt := 59) dX7_ask_332 (by decide) ?_
      have e9 : sc - (b + (if false then 1 else 0)) = sc - b - 0 := by simp only [reduceIte, Bool.false_eq_true]; omega
      rw [e9] at h
      exact ks_sub [(0, _), (1, _), (2, _), (3, _), (4, _), (5, _)] rfl h
    · exact absurd h1 (by decide)
  | true =>
    refine ks_decN (e := kc - (a + 1)) dX7_ask_311 rfl (by decide) (by omega) (by decide) rfl ?_
    refine ks_sub [(3, _), (0, _), (1, _), (2, _), (4, _), (5, _), (9, _)] rfl ?_
    refine ks_iload dX7_ask_314 rfl rfl ?_
    refine ks_iload dX7_ask_316 rfl rfl ?_
    refine ks_if_eqZ (tgt := 325) dX7_ask_318 (by decide) rfl (fun h1 => ?_) (fun h1 => ?_)
    · exact absurd h1 (by decide)
    · refine ks_iconst (x := nI 1) dX7_ask_321 (by decide) rfl ?_
      refine ks_goto (tgt := 326) dX7_ask_322 (by decide) ?_
      refine ks_subN (by omega) dX7_ask_326 rfl ?_
      refine ks_istore dX7_ask_327 (by decide) rfl ?_
      refine ks_sub [(4, _), (0, _), (1, _), (2, _), (3, _), (5, _), (9, _)] rfl ?_
      refine ks_incN (c := 1) (e := a + 1) dX7_ask_329 rfl (by decide) rfl (by decide) rfl ?_
      refine ks_sub [(5, _), (0, _), (1, _), (2, _), (3, _), (4, _), (9, _)] rfl ?_
      refine ks_goto (tgt := 59) dX7_ask_332 (by decide) ?_
      have e9 : sc - (b + (if true then 1 else 0)) = sc - b - 1 := by simp only [reduceIte, Bool.false_eq_true]; omega
      rw [e9] at h
      exact ks_sub [(0, _), (1, _), (2, _), (3, _), (4, _), (5, _)] rfl h
set_option maxRecDepth 100000 in
set_option maxHeartbeats 800000 in
theorem l_akStep {l : Launch} {G : ks_G} {d : Nat} {S : ks_S} {inp cy pa pe pb ops opn cl kt kc st sc k0 s0 tk op : Nat} {xs ys : List (List Nat)} {u : Nat} {code : List Nat} {y9 N9 L9 b9 k9 p9 m9 u9 e9 : Nat} {g9 : Nat → Nat} (hma : mathOK) (hM : S.2.2 27 = some (mcO inp cy pa pe pb ops opn cl (nI kt) (nI kc) (nI st) (nI sc))) (hO : st_ok S xs ys u) (hB : bfS S 37 38 1600 (some code)) (hV : tv_ok S y9 g9 L9 b9 k9 p9 m9 u9 e9) (hy9 : S.2.2 y9 = some (kB N9 g9)) (hg9 : kO g9) (hL9 : L9 ≤ N9) (hN9 : N9 < 2 ^ 18) (hi9 : inp < k9) (he9 : e9 ≤ u9 + 4000) (hyn : 56 ≤ y9) (hK : ks_stOK S) (hkt : kt + k0 + 1 = xs.length) (hst : st + s0 + 1 = xs.length) (hk0 : k0 + kc ≤ xs.length) (hs0 : s0 + sc ≤ xs.length) (hk20 : kc ≤ 20) (hop : op < 256) (htk : tk ≤ xs.length) {P : Option Value → ks_S → Prop} {S1 : ks_S} {a b : Nat} (ha : a < kc) (hb : b < sc) (hle : sc - b ≤ kc - a) (hI : akI S S1) (hnx : ∀ (S2 : ks_S) (b2 : Nat), akI S S2 → b ≤ b2 → b2 ≤ b + 1 → askS (fun k s => ecG k s (sgH g9 L9 b9 k9 p9 m9 u9 e9 inp (s.getD (s.length - 1) 0) code)) (((xs.drop k0).take kc).drop a) (((xs.drop s0).take sc).drop b) = askS (fun k s => ecG k s (sgH g9 L9 b9 k9 p9 m9 u9 e9 inp (s.getD (s.length - 1) 0) code)) (((xs.drop k0).take kc).drop (a + 1)) (((xs.drop s0).take sc).drop b2) → ks_X l G mX7_ask (d + 5) 59 [(0, .ref 27), (1, .int (nI op)), (2, .int (nI tk)), (3, .int (nI (kc - (a + 1)))), (4, .int (nI (sc - b2))), (5, .int (nI (a + 1)))] [] S2 P) (hno : ∀ S2 : ks_S, akI S S2 → askS (fun k s => ecG k s (sgH g9 L9 b9 k9 p9 m9 u9 e9 inp (s.getD (s.length - 1) 0) code)) (((xs.drop k0).take kc).drop a) (((xs.drop s0).take sc).drop b) = none → P (some (.int (ks_bo false))) S2) : ks_X l G mX7_ask (d + 5) 77 [(0, .ref 27), (1, .int (nI op)), (2, .int (nI tk)), (3, .int (nI (kc - a))), (4, .int (nI (sc - b))), (5, .int (nI a))] [] S1 P := by
  have bd := hO.bd
  obtain ⟨ar, fa, fc, h30, h31, h32, kar, hel⟩ := hO.rows
  obtain ⟨hu, hcu, hhs, ⟨g28, kg28, h28⟩, ob, hob⟩ := hI
  obtain ⟨ki, hki⟩ : ∃ ki, ki + k0 + a + 1 = xs.length := ⟨xs.length - 1 - (k0 + a), by omega⟩
  obtain ⟨si, hsi⟩ : ∃ si, si + s0 + b + 1 = xs.length := ⟨xs.length - 1 - (s0 + b), by omega⟩
  obtain ⟨kx1, kx2, kx3⟩ := hel (k0 + a) (by omega)
  obtain ⟨sx1, sx2, sx3⟩ := hel (s0 + b) (by omega)
  rw [show xs.length - 1 - (k0 + a) = ki by omega] at kx1 kx2 kx3
  rw [show xs.length - 1 - (s0 + b) = si by omega] at sx1 sx2 sx3
  have eA : askS (fun k s => ecG k s (sgH g9 L9 b9 k9 p9 m9 u9 e9 inp (s.getD (s.length - 1) 0) code)) (((xs.drop k0).take kc).drop a) (((xs.drop s0).take sc).drop b) = if sc - (b + 1) > kc - (a + 1) then some false else if xs.getD (s0 + b) [] = [] then askS (fun k s => ecG k s (sgH g9 L9 b9 k9 p9 m9 u9 e9 inp (s.getD (s.length - 1) 0) code)) (((xs.drop k0).take kc).drop (a + 1)) (((xs.drop s0).take sc).drop b) else if sgFL (xs.getD (s0 + b) []) = true then (if ecG (xs.getD (k0 + a) []) (xs.getD (s0 + b) []) (sgH g9 L9 b9 k9 p9 m9 u9 e9 inp ((xs.getD (s0 + b) []).getD ((xs.getD (s0 + b) []).length - 1) 0) code) = true then askS (fun k s => ecG k s (sgH g9 L9 b9 k9 p9 m9 u9 e9 inp (s.getD (s.length - 1) 0) code)) (((xs.drop k0).take kc).drop (a + 1)) (((xs.drop s0).take sc).drop (b + 1)) else askS (fun k s => ecG k s (sgH g9 L9 b9 k9 p9 m9 u9 e9 inp (s.getD (s.length - 1) 0) code)) (((xs.drop k0).take kc).drop (a + 1)) (((xs.drop s0).take sc).drop b)) else none := by
    rw [tk_cons ha hk0, tk_cons hb hs0, askS, tk_len hk0, tk_len hs0, ← tk_cons hb hs0]
  rw [if_neg (by omega)] at eA
  generalize hks : xs.getD (k0 + a) [] = kk at *
  generalize hss : xs.getD (s0 + b) [] = ss at *
  refine ks_aload_n dX7_ask_77 rfl rfl ?_
  refine ks_getf (T := TX7) (kf := 16) kx_659 rfl in_X7 cl_X7 (by decide) (hu.at hM (by decide)) rfl dX7_ask_78 rfl ?_
  refine ks_aload_n dX7_ask_81 rfl rfl ?_
  refine ks_getf (T := TX7) (kf := 17) kx_660 rfl in_X7 cl_X7 (by decide) (hu.at hM (by decide)) rfl dX7_ask_82 rfl ?_
  refine ks_iload_n dX7_ask_85 rfl rfl ?_
  refine ks_subN (by omega) dX7_ask_86 rfl ?_
  refine ks_subN (by omega) dX7_ask_87 rfl ?_
  rw [show kt - (kc - (kc - a)) = ki by omega]
  refine ks_istore dX7_ask_88 (by decide) rfl ?_
  refine ks_sub [(6, _), (0, _), (1, _), (2, _), (3, _), (4, _), (5, _)] rfl ?_
  refine ks_aload_n dX7_ask_90 rfl rfl ?_
  refine ks_getf (T := TX7) (kf := 18) kx_661 rfl in_X7 cl_X7 (by decide) (hu.at hM (by decide)) rfl dX7_ask_91 rfl ?_
  refine ks_aload_n dX7_ask_94 rfl rfl ?_
  refine ks_getf (T := TX7) (kf := 19) kx_662 rfl in_X7 cl_X7 (by decide) (hu.at hM (by decide)) rfl dX7_ask_95 rfl ?_
  refine ks_iload dX7_ask_98 rfl rfl ?_
  refine ks_subN (by omega) dX7_ask_100 rfl ?_
  refine ks_subN (by omega) dX7_ask_101 rfl ?_
  rw [show st - (sc - (sc - b)) = si by omega]
  refine ks_istore dX7_ask_102 (by decide) rfl ?_
  refine ks_sub [(7, _), (0, _), (1, _), (2, _), (3, _), (4, _), (5, _), (6, _)] rfl ?_
  refine ks_aload_n dX7_ask_104 rfl rfl ?_
  refine ks_getf (T := TX7) (kf := 3) kx_646 rfl in_X7 cl_X7 (by decide) (hu.at hM (by decide)) rfl dX7_ask_105 rfl ?_
  refine ks_getf (T := TX8) (kf := 1) kx_611 rfl in_X8 cl_X8 (by decide) (hu.at hO.ob (by decide)) rfl dX7_ask_108 rfl ?_
  refine ks_iload dX7_ask_111 rfl rfl ?_
  refine ks_ialdN (i := si) (hu.at h31 (by decide)) rfl (by omega) (by decide) dX7_ask_113 rfl ?_
  refine ks_aload_n dX7_ask_114 rfl rfl ?_
  refine ks_getf (T := TX7) (kf := 3) kx_646 rfl in_X7 cl_X7 (by decide) (hu.at hM (by decide)) rfl dX7_ask_115 rfl ?_
  refine ks_getf (T := TX8) (kf := 2) kx_613 rfl in_X8 cl_X8 (by decide) (hu.at hO.ob (by decide)) rfl dX7_ask_118 rfl ?_
  refine ks_iload dX7_ask_121 rfl rfl ?_
  refine ks_ialdN (i := si) (hu.at h32 (by decide)) rfl (by omega) (by decide) dX7_ask_123 rfl ?_
  refine ks_addN dX7_ask_124 rfl ?_
  refine ks_iconst (x := nI 1) dX7_ask_125 (by decide) rfl ?_
  refine ks_subD dX7_ask_126 rfl ?_
  refine ks_istore dX7_ask_127 (by decide) rfl ?_
  refine ks_sub [(8, _), (0, _), (1, _), (2, _), (3, _), (4, _), (5, _), (6, _), (7, _)] rfl ?_
  refine ks_aload_n dX7_ask_129 rfl rfl ?_
  refine ks_getf (T := TX7) (kf := 3) kx_646 rfl in_X7 cl_X7 (by decide) (hu.at hM (by decide)) rfl dX7_ask_130 rfl ?_
  refine ks_getf (T := TX8) (kf := 2) kx_613 rfl in_X8 cl_X8 (by decide) (hu.at hO.ob (by decide)) rfl dX7_ask_133 rfl ?_
  refine ks_iload dX7_ask_136 rfl rfl ?_
  refine ks_ialdN (i := si) (hu.at h32 (by decide)) rfl (by omega) (by decide) dX7_ask_138 rfl ?_
  refine ks_if_leN (tgt := 146) (by omega) dX7_ask_139 (by decide) rfl (fun h1 => ?_) (fun h1 => ?_)
  · have es : ss = [] := List.eq_nil_of_length_eq_zero (by omega)
    rw [if_pos es] at eA
    refine ks_iconst (x := nI 0) dX7_ask_146 (by decide) rfl ?_
    refine ks_istore dX7_ask_147 (by decide) rfl ?_
    refine ks_sub [(9, _), (0, _), (1, _), (2, _), (3, _), (4, _), (5, _), (6, _), (7, _), (8, _)] rfl ?_
    refine ks_iload dX7_ask_149 rfl rfl ?_
    refine ks_if_eqN (tgt := 193) (by decide) dX7_ask_151 (by decide) rfl (fun hc151 => ?_) (fun hc151 => ?_)
    · refine ks_iload dX7_ask_193 rfl rfl ?_
      refine ks_if_eqN (tgt := 277) (by decide) dX7_ask_195 (by decide) rfl (fun hc195 => ?_) (fun hc195 => ?_)
      · refine ks_iconst (x := nI 0) dX7_ask_277 (by decide) rfl ?_
        refine ks_istore dX7_ask_278 (by decide) rfl ?_
        refine ks_sub [(9, _), (0, _), (1, _), (2, _), (3, _), (4, _), (5, _), (6, _), (7, _), (8, _)] rfl ?_
        refine ks_iload dX7_ask_280 rfl rfl ?_
        refine ks_if_eqN (tgt := 311) (by decide) dX7_ask_282 (by decide) rfl (fun hc282 => ?_) (fun hc282 => ?_)
        · refine ks_sub [(0, _), (1, _), (2, _), (3, _), (4, _), (5, _), (9, _)] rfl ?_
          exact ks_sub [(0, _), (1, _), (2, _), (3, _), (4, _), (5, _), (9, .int (ks_bo false))] rfl (l_ak311 ha hb hk20 (hnx S1 b ⟨hu, hcu, hhs, ⟨g28, kg28, h28⟩, ob, hob⟩ (Nat.le_refl _) (by omega) eA))
        · exact absurd hc282 (by decide)
      · exact absurd hc195 (by decide)
    · exact absurd hc151 (by decide)
  · have es : ss ≠ [] := fun e => by rw [e] at sx2; simp at sx2; omega
    rw [if_neg es] at eA
    obtain ⟨ir, R, Q, ⟨hC, hQ, rw_, hrw, hW⟩, hR⟩ := id hcu
    refine ks_iconst (x := nI 1) dX7_ask_142 (by decide) rfl ?_
    refine ks_goto (tgt := 147) dX7_ask_143 (by decide) ?_
    refine ks_istore dX7_ask_147 (by decide) rfl ?_
    refine ks_sub [(9, _), (0, _), (1, _), (2, _), (3, _), (4, _), (5, _), (6, _), (7, _), (8, _)] rfl ?_
    refine ks_iload dX7_ask_149 rfl rfl ?_
    refine ks_if_eqN (tgt := 193) (by decide) dX7_ask_151 (by decide) rfl (fun h2 => ?_) (fun h2 => ?_)
    · exact absurd h2 (by decide)
    · refine ks_aload_n dX7_ask_154 rfl rfl ?_
      refine ks_getf (T := TX7) (kf := 2) kx_645 rfl in_X7 cl_X7 (by decide) (hu.at hM (by decide)) rfl dX7_ask_155 rfl ?_
      refine ks_aload_n dX7_ask_158 rfl rfl ?_
      refine ks_getf (T := TX7) (kf := 3) kx_646 rfl in_X7 cl_X7 (by decide) (hu.at hM (by decide)) rfl dX7_ask_159 rfl ?_
      refine ks_getf (T := TX8) (kf := 0) kx_609 rfl in_X8 cl_X8 (by decide) (hu.at hO.ob (by decide)) rfl dX7_ask_162 rfl ?_
      refine ks_aload_n dX7_ask_165 rfl rfl ?_
      refine ks_getf (T := TX7) (kf := 3) kx_646 rfl in_X7 cl_X7 (by decide) (hu.at hM (by decide)) rfl dX7_ask_166 rfl ?_
      refine ks_getf (T := TX8) (kf := 1) kx_611 rfl in_X8 cl_X8 (by decide) (hu.at hO.ob (by decide)) rfl dX7_ask_169 rfl ?_
      refine ks_iload dX7_ask_172 rfl rfl ?_
      refine ks_ialdN (i := si) (hu.at h31 (by decide)) rfl (by omega) (by decide) dX7_ask_174 rfl ?_
      refine ks_aload_n dX7_ask_175 rfl rfl ?_
      refine ks_getf (T := TX7) (kf := 3) kx_646 rfl in_X7 cl_X7 (by decide) (hu.at hM (by decide)) rfl dX7_ask_176 rfl ?_
      refine ks_getf (T := TX8) (kf := 2) kx_613 rfl in_X8 cl_X8 (by decide) (hu.at hO.ob (by decide)) rfl dX7_ask_179 rfl ?_
      refine ks_iload dX7_ask_182 rfl rfl ?_
      refine ks_ialdN (i := si) (hu.at h32 (by decide)) rfl (by omega) (by decide) dX7_ask_184 rfl ?_
      refine ks_callV (n := 3) (M' := mX3_takeSignature) (c_cv_takeSignature (d := d + 1) (i := fa si) (c := fc si) hC.1 hQ hW hrw (hu.at h30 (by decide)) kar (by decide) (by omega) (by decide) (by decide) (by decide)) hC.1 cl_X3 rfl kx_1606 kx_1607 kx_1608 kx_4 kx_1609 (by decide +kernel) rfl (by decide) (Nat.le_of_ble_eq_true rfl) rfl dX7_ask_185 rfl (fun z1 T1 y1 => ?_)
      obtain ⟨rfl, u1, ir1, Q1, r1, O1, q1, k1, W1, j1, v1⟩ := y1
      have C1 : cvX T1 ir1 R := ⟨O1, hC.2.1.up u1 (by decide) (by decide), hC.2.2⟩
      have uu1 : ks_up S T1 LAk := hu.trans (u1.mono (by decide))
      have I1 : akI S T1 := ⟨uu1, ⟨ir1, R, Q1, ⟨C1, q1, r1, k1, W1⟩, hR⟩, hhs.up u1 (by decide), ⟨g28, kg28, u1.at h28 (by decide)⟩, ob, hob.up u1 (by decide) (by decide)⟩
      have eL : sgF ar (fa si) (fc si) = sgFL ss := by
        rw [sgF_L, ← sx1, sx2]
        rfl
      refine ks_if_neZ (tgt := 193) dX7_ask_188 (by decide) rfl (fun h3 => ?_) (fun h3 => ?_)
      · rw [if_pos (by rw [← eL]; exact h3)] at eA
        obtain ⟨hir, hrs⟩ := v1 h3
        have er := sgr_L h3
        have eS := sgs_L h3
        rw [← sx1] at er eS
        rw [er, eS] at hir hrs
        rw [sx2] at hir hrs
        clear er eS v1 h3 eL
        refine ks_iload dX7_ask_193 rfl rfl ?_
        refine ks_if_eqN (tgt := 277) (by decide) dX7_ask_195 (by decide) rfl (fun h4 => ?_) (fun h4 => ?_)
        · exact absurd h4 (by decide)
        · refine ks_aload_n dX7_ask_198 rfl rfl ?_
          refine ks_getf (T := TX7) (kf := 2) kx_645 rfl in_X7 cl_X7 (by decide) (uu1.at hM (by decide)) rfl dX7_ask_199 rfl ?_
          refine ks_aload_n dX7_ask_202 rfl rfl ?_
          refine ks_getf (T := TX7) (kf := 3) kx_646 rfl in_X7 cl_X7 (by decide) (uu1.at hM (by decide)) rfl dX7_ask_203 rfl ?_
          refine ks_getf (T := TX8) (kf := 0) kx_609 rfl in_X8 cl_X8 (by decide) (uu1.at hO.ob (by decide)) rfl dX7_ask_206 rfl ?_
          refine ks_aload_n dX7_ask_209 rfl rfl ?_
          refine ks_getf (T := TX7) (kf := 3) kx_646 rfl in_X7 cl_X7 (by decide) (uu1.at hM (by decide)) rfl dX7_ask_210 rfl ?_
          refine ks_getf (T := TX8) (kf := 1) kx_611 rfl in_X8 cl_X8 (by decide) (uu1.at hO.ob (by decide)) rfl dX7_ask_213 rfl ?_
          refine ks_iload dX7_ask_216 rfl rfl ?_
          refine ks_ialdN (i := ki) (uu1.at h31 (by decide)) rfl (by omega) (by decide) dX7_ask_218 rfl ?_
          refine ks_aload_n dX7_ask_219 rfl rfl ?_
          refine ks_getf (T := TX7) (kf := 3) kx_646 rfl in_X7 cl_X7 (by decide) (uu1.at hM (by decide)) rfl dX7_ask_220 rfl ?_
          refine ks_getf (T := TX8) (kf := 2) kx_613 rfl in_X8 cl_X8 (by decide) (uu1.at hO.ob (by decide)) rfl dX7_ask_223 rfl ?_
          refine ks_iload dX7_ask_226 rfl rfl ?_
          refine ks_ialdN (i := ki) (uu1.at h32 (by decide)) rfl (by omega) (by decide) dX7_ask_228 rfl ?_
          refine ks_callV (n := 3) (M' := mX3_takeKey) (c_cv_takeKey (d := d) (i := fa ki) (c := fc ki) C1 hR.1 (uu1.st hK (by unfold ks_B; decide)) (uu1.at h30 (by decide)) kar (by decide) (by omega) (by decide) (by decide) (by decide)) O1 cl_X3 rfl kx_1618 kx_1619 kx_1620 kx_4 kx_1621 (by decide +kernel) rfl (by decide) (Nat.le_of_ble_eq_true rfl) rfl dX7_ask_229 rfl (fun z2 T2 y2 => ?_)
          obtain ⟨rfl, u2, R2, C2, j2, v2⟩ := y2
          have q2 := q1.up u2 (by decide) (by decide)
          have W2 := u2.at W1 (by decide)
          have uu2 : ks_up S T2 LAk := uu1.trans (u2.mono (by decide))
          have R2c := hR.of2 j2
          have I2 : akI S T2 := ⟨uu2, ⟨ir1, R2, Q1, ⟨C2, q2, r1, k1, W2⟩, R2c⟩, I1.2.2.1.up u2 (by decide), ⟨g28, kg28, u2.at (u1.at h28 (by decide)) (by decide)⟩, ob, (hob.up u1 (by decide) (by decide)).up u2 (by decide) (by decide)⟩
          have eK : kyF ar (fa ki) (fc ki) = kyF (Fl kk) 0 kk.length := by
            rw [kyF_L, ← kx1, kx2]
          refine ks_if_eqZ (tgt := 277) dX7_ask_232 (by decide) rfl (fun h5 => ?_) (fun h5 => ?_)
          · rw [if_neg (by unfold ecG; rw [← eK, h5]; simp)] at eA
            refine ks_iconst (x := nI 0) dX7_ask_277 (by decide) rfl ?_
            refine ks_istore dX7_ask_278 (by decide) rfl ?_
            refine ks_sub [(9, _), (0, _), (1, _), (2, _), (3, _), (4, _), (5, _), (6, _), (7, _), (8, _)] rfl ?_
            refine ks_iload dX7_ask_280 rfl rfl ?_
            refine ks_if_eqN (tgt := 311) (by decide) dX7_ask_282 (by decide) rfl (fun hc282 => ?_) (fun hc282 => ?_)
            · refine ks_sub [(0, _), (1, _), (2, _), (3, _), (4, _), (5, _), (9, _)] rfl ?_
              exact ks_sub [(0, _), (1, _), (2, _), (3, _), (4, _), (5, _), (9, .int (ks_bo false))] rfl (l_ak311 ha hb hk20 (hnx _ b I2 (Nat.le_refl _) (by omega) eA))
            · exact absurd hc282 (by decide)
          · have hkb := kyF_b h5
            have ekx := kyX_L (g := ar) (i := fa ki) (c := fc ki) hkb
            have eky := kyY_L (g := ar) (i := fa ki) (c := fc ki) hkb
            rw [← kx1] at ekx eky
            have ylt := kyY_lt hma h5
            have hky := of_decide_eq_true h5
            obtain ⟨x10, x11, x12⟩ := v2 h5
            have hk9 : kyF (Fl kk) 0 kk.length = true := by rw [← eK]; exact h5
            obtain ⟨kX, hkX⟩ : ∃ v, beN ar (fa ki + 1) = v := ⟨_, rfl⟩
            obtain ⟨kY, hkY⟩ : ∃ v, kyY ar (fa ki) (fc ki) = v := ⟨_, rfl⟩
            have xlt : kX < pP := by rw [← hkX]; exact hky.2.1
            have onC : mM kY kY = ky3 kX := by rw [← hkX, ← hkY]; exact hky.2.2.2
            rw [hkX] at ekx x10
            rw [hkY] at eky x11 ylt
            rw [kx2] at eky
            clear hky v2 h5 eK
            have e8 : nI (fa si + fc si) - 1 = nI (fa si + fc si - 1) := by rw [show fa si + fc si = (fa si + fc si - 1) + 1 by omega]; exact nI_pred _
            rw [e8]
            refine ks_aload_n dX7_ask_235 rfl rfl ?_
            refine ks_aload_n dX7_ask_236 rfl rfl ?_
            refine ks_getf (T := TX7) (kf := 7) kx_650 rfl in_X7 cl_X7 (by decide) (uu2.at hM (by decide)) rfl dX7_ask_237 rfl ?_
            refine ks_aload_n dX7_ask_240 rfl rfl ?_
            refine ks_getf (T := TX7) (kf := 8) kx_651 rfl in_X7 cl_X7 (by decide) (uu2.at hM (by decide)) rfl dX7_ask_241 rfl ?_
            refine ks_aload_n dX7_ask_244 rfl rfl ?_
            refine ks_getf (T := TX7) (kf := 3) kx_646 rfl in_X7 cl_X7 (by decide) (uu2.at hM (by decide)) rfl dX7_ask_245 rfl ?_
            refine ks_getf (T := TX8) (kf := 0) kx_609 rfl in_X8 cl_X8 (by decide) (uu2.at hO.ob (by decide)) rfl dX7_ask_248 rfl ?_
            refine ks_iload dX7_ask_251 rfl rfl ?_
            refine ks_baldB (i := fa si + fc si - 1) (uu2.at h30 (by decide)) rfl (by omega) (by decide) dX7_ask_253 rfl ?_
            refine ks_sipush (x := nI 255) dX7_ask_254 (by decide) rfl ?_
            refine ks_andB (kar _) dX7_ask_257 rfl ?_
            have hy257 : ar (fa si + fc si - 1) < 256 := (kar _)
            have ety : ar (fa si + fc si - 1) = ss.getD (ss.length - 1) 0 := by rw [sx1, bytL_len, bytL_at _ _ _ (by omega)]; congr 1; omega
            have hty : ar (fa si + fc si - 1) < 256 := kar _
            rw [ety] at hty ⊢
            refine ks_callV (n := 3) (M' := mX7_nameSigned) (c_mc_nameSigned (d := d) (code := code) (uu2.at hM (by decide)) (hV.up uu2 (by decide)) (uu2.at hy9 (by simp only [List.mem_cons, List.not_mem_nil, or_false, not_or]; omega)) hg9 hL9 hN9 (by simp only [List.mem_cons, List.not_mem_nil, or_false, not_or]; omega) hi9 hty (hB.up uu2 (by decide) (by decide)) ((hob.up u1 (by decide) (by decide)).up u2 (by decide) (by decide)) he9 I2.2.2.1 (u2.at (u1.at h28 (by decide)) (by decide)) kg28 (uu2.st hK (by unfold ks_B; decide))) (uu2.at hM (by decide)) cl_X7 rfl kx_1632 kx_1344 kx_1345 kx_24 kx_1346 (by decide +kernel) rfl (by decide) (Nat.le_of_ble_eq_true rfl) rfl dX7_ask_258 rfl (fun z3 T3 y3 => ?_)
            obtain ⟨rfl, u3, H3, ⟨o3, B3⟩, h3, k3, w3, e3⟩ := y3
            have uu3 : ks_up S T3 LAk := uu2.trans (u3.mono (by decide))
            have C3 : cvX T3 ir1 R2 := ⟨u3.at C2.1 (by decide), C2.2.1.up u3 (by decide) (by decide), C2.2.2⟩
            have q3 := q2.up u3 (by decide) (by decide)
            have W3 := u3.at W2 (by decide)
            have eh := beN_L e3
            have I3 : akI S T3 := ⟨uu3, ⟨ir1, R2, Q1, ⟨C3, q3, r1, k1, W3⟩, R2c⟩, H3, ⟨h3, k3, w3⟩, o3, B3⟩
            have hr0 : ir1 = true → Q1 0 < nN := fun h => by rw [(hrs h).1]; rw [hir] at h; have := of_decide_eq_true (Bool.and_eq_true_iff.mp h).1; exact this.2
            have hs0' : ir1 = true → Q1 1 < nN := fun h => by rw [(hrs h).2]; rw [hir] at h; have := of_decide_eq_true (Bool.and_eq_true_iff.mp h).2; exact this.2
            refine ks_aload_n dX7_ask_261 rfl rfl ?_
            refine ks_getf (T := TX7) (kf := 2) kx_645 rfl in_X7 cl_X7 (by decide) (uu3.at hM (by decide)) rfl dX7_ask_262 rfl ?_
            refine ks_aload_n dX7_ask_265 rfl rfl ?_
            refine ks_getf (T := TX7) (kf := 0) kx_642 rfl in_X7 cl_X7 (by decide) (uu3.at hM (by decide)) rfl dX7_ask_266 rfl ?_
            refine ks_callV (n := 1) (M' := mX3_weigh) (c_cv_weigh (d := d) C3.1 q3 w3 k3 (by decide) (by decide) (by decide) hr0 hs0') C3.1 cl_X3 rfl kx_1633 kx_1634 kx_1635 kx_4 kx_1636 (by decide +kernel) rfl (by decide) (Nat.le_of_ble_eq_true rfl) rfl dX7_ask_269 rfl (fun z4 T4 y4 => ?_)
            obtain ⟨rfl, n4, u4, v4⟩ := y4
            have uu4 : ks_up S T4 LAk := uu3.trans (u4.mono (by decide))
            refine ks_istore dX7_ask_272 (by decide) rfl ?_
            refine ks_sub [(9, _), (0, _), (1, _), (2, _), (3, _), (4, _), (5, _), (6, _), (7, _), (8, _)] rfl ?_
            refine ks_goto (tgt := 280) dX7_ask_274 (by decide) ?_
            refine ks_iload dX7_ask_280 rfl rfl ?_
            refine ks_if_eqZ (tgt := 311) dX7_ask_282 (by decide) rfl (fun h6 => ?_) (fun h6 => ?_)
            · obtain rfl := n4 h6
              rw [if_neg (by unfold ecG; rw [← hir, h6, Bool.and_false]; simp)] at eA
              rw [h6]
              refine ks_sub [(0, _), (1, _), (2, _), (3, _), (4, _), (5, _), (9, _)] rfl ?_
              exact l_ak311 ha hb hk20 (hnx _ b I3 (Nat.le_refl _) (by omega) eA)
            · obtain ⟨Q4, q4, q40, q41, p43, p44⟩ := v4 h6
              obtain ⟨r40, s41⟩ := hrs h6
              have nr := hr0 h6
              have ns := hs0' h6
              have C4 : cvX T4 ir1 R2 := ⟨u4.at C3.1 (by decide), C3.2.1.up u4 (by decide) (by decide), C3.2.2⟩
              have W4 := u4.at W3 (by decide)
              have w4 := u4.at w3 (by decide)
              have hm4 : beN h3 0 % nN < nN := Nat.mod_lt _ (by decide)
              have e43 := hma.1 _ _ _ hm4 ns p43
              have e44 := hma.1 _ _ _ nr ns p44
              rw [r40, s41] at e44
              rw [s41, eh] at e43
              rw [r40] at q40
              clear p43 p44 n4 v4
              have L2 : ∀ i, i < 15 → ptL (ptR R2 (10 + 3 * i)) := fun i hi => by
                by_cases c0 : i = 0
                · subst c0; exact ⟨by show R2 10 < pP; rw [x10]; exact xlt, by show R2 11 < pP; rw [x11]; exact ylt, by show R2 12 < pP; rw [x12]; decide⟩
                · exact R2c.2.2.2 i (by omega) hi
              refine ks_aload_n dX7_ask_285 rfl rfl ?_
              refine ks_getf (T := TX7) (kf := 2) kx_645 rfl in_X7 cl_X7 (by decide) (uu4.at hM (by decide)) rfl dX7_ask_286 rfl ?_
              refine ks_bipush (x := nI 90) dX7_ask_289 (by decide) rfl ?_
              refine ks_callV (n := 1) (M' := mX3_fillMultiples) (c_cv_fillMultiples (d := d + 1) (f := 10) C4 (by decide) (by decide) L2) C4.1 cl_X3 rfl kx_1637 kx_495 kx_496 kx_4 kx_497 (by decide +kernel) rfl (by decide) (Nat.le_of_ble_eq_true rfl) rfl dX7_ask_291 rfl (fun z5 T5 y5 => ?_)
              obtain ⟨rfl, u5, R5, C5, k5, j5⟩ := y5
              have uu5 : ks_up S T5 LAk := uu4.trans (u5.mono (by decide))
              have q5 := q4.up u5 (by decide) (by decide)
              have W5 := u5.at W4 (by decide)
              have w5 := u5.at w4 (by decide)
              have KK : ∀ i, i < 15 → mlT R2 10 i = kyT kX kY i := hma.2.2.2 _ _ _ xlt ylt onC ⟨by show ptR R2 10 = _; unfold ptR; rw [x10, x11, x12], rfl, fun i _ => ⟨_, rfl⟩⟩
              have R5L : ∀ i, i < 15 → ptL (ptR R5 (10 + 3 * i)) := fun i hi => by rw [k5 i hi]; exact mlT_L L2 i hi
              have R5c : cuR R5 := by
                refine ⟨(j5 6 (by decide) (by decide)).trans R2c.1, ?_, fun i hi => ?_, fun i _ hi => R5L i hi⟩
                · have := R2c.2.1; unfold ptR at this ⊢; rw [j5 _ (by omega) (by omega), j5 _ (by omega) (by omega), j5 _ (by omega) (by omega)]; exact this
                · rw [← R2c.2.2.1 i hi]; unfold ptR; rw [j5 _ (by omega) (by omega), j5 _ (by omega) (by omega), j5 _ (by omega) (by omega)]
              refine ks_aload_n dX7_ask_294 rfl rfl ?_
              refine ks_getf (T := TX7) (kf := 2) kx_645 rfl in_X7 cl_X7 (by decide) (uu5.at hM (by decide)) rfl dX7_ask_295 rfl ?_
              refine ks_iconst (x := nI 1) dX7_ask_298 (by decide) rfl ?_
              refine ks_ti (y := ks_bo true) rfl ?_
              refine ks_callV (n := 1) (M' := mX3_sum) (c_cv_sum (d := d + 1) (wk := true) C5 q5 R5c.2.1 (fun i hi => by rw [R5c.2.2.1 i hi]; exact baT_L i hi) (fun _ => R5L)) C5.1 cl_X3 rfl kx_1638 kx_1183 kx_1184 kx_4 kx_1185 (by decide +kernel) rfl (by decide) (Nat.le_of_ble_eq_true rfl) rfl dX7_ask_299 rfl (fun z6 T6 y6 => ?_)
              obtain ⟨rfl, u6, R6, C6, P6, j6, L6⟩ := y6
              have uu6 : ks_up S T6 LAk := uu5.trans (u6.mono (by decide))
              have q6 := q5.up u6 (by decide) (by decide)
              rw [if_pos rfl] at P6
              have rel := smL_R (u := Q4 3) (v := Q4 4) (B := fun i => ptR R5 (55 + 3 * i)) (B' := baT) (K := fun i => ptR R5 (10 + 3 * i)) (K' := kyT kX kY) R5c.2.2.1 (Or.inr (fun i hi => (k5 i hi).trans (KK i hi))) 64 ((R5 7, R5 8, 0), false) ((0, 0, 0), false) (Or.inr ⟨rfl, rfl, rfl, rfl⟩)
              have relP : ptR R6 7 = smP kX kY (Q4 3) (Q4 4) ∨ ((ptR R6 7).2.2 = 0 ∧ (smP kX kY (Q4 3) (Q4 4)).2.2 = 0) := by
                rw [P6]
                rcases rel with h | h
                · left; rw [h]; rfl
                · right; exact ⟨h.2.2.1, h.2.2.2⟩
              have R6c : cuR R6 := R5c.of (fun j h1 h2 _ => j6 j h1 h2) L6
              have W6 := u6.at W5 (by decide)
              have w6 := u6.at w5 (by decide)
              clear rel P6
              refine ks_aload_n dX7_ask_302 rfl rfl ?_
              refine ks_getf (T := TX7) (kf := 2) kx_645 rfl in_X7 cl_X7 (by decide) (uu6.at hM (by decide)) rfl dX7_ask_303 rfl ?_
              refine ks_callV (n := 0) (M' := mX3_sumHasR) (c_cv_sumHasR (d := d + 3) C6 q6 L6 (by rw [q40, ← r40]; exact nr)) C6.1 cl_X3 rfl kx_1639 kx_1640 kx_1641 kx_4 kx_1642 (by decide +kernel) rfl (by decide) (Nat.le_of_ble_eq_true rfl) rfl dX7_ask_306 rfl (fun z7 T7 y7 => ?_)
              obtain ⟨rfl, u7, R7, C7, j7⟩ := y7
              have uu7 : ks_up S T7 LAk := uu6.trans (u7.mono (by decide))
              rw [shR_R _ relP, q40, e43, e44, ekx, eky]
              have eg : ecG kk ss (sgH g9 L9 b9 k9 p9 m9 u9 e9 inp (ss.getD (ss.length - 1) 0) code) = shR (smP (beN (Fl kk) 1) (kyY (Fl kk) 0 kk.length) (dvF nN (beN (Fl (sgH g9 L9 b9 k9 p9 m9 u9 e9 inp (ss.getD (ss.length - 1) 0) code)) 0 % nN) (sgs (Fl ss) 0 ss.length)) (dvF nN (sgr (Fl ss) 0) (sgs (Fl ss) 0 ss.length))) (sgr (Fl ss) 0) := by
                unfold ecG
                rw [hk9, ← hir, h6, Bool.true_and, Bool.true_and]
              rw [← eg]
              have I7 : akI S T7 := ⟨uu7, ⟨ir1, R7, Q4, ⟨C7, q6.up u7 (by decide) (by decide), r1, k1, u7.at W6 (by decide)⟩, R6c.of (fun j h1 _ _ => j7 j h1) (by have := L6; unfold ptR at this ⊢; rw [j7 7 (by decide), j7 8 (by decide), j7 9 (by decide)]; exact this)⟩, (((H3.up u4 (by decide)).up u5 (by decide)).up u6 (by decide)).up u7 (by decide), ⟨h3, k3, u7.at w6 (by decide)⟩, o3, (((B3.up u4 (by decide) (by decide)).up u5 (by decide) (by decide)).up u6 (by decide) (by decide)).up u7 (by decide) (by decide)⟩
              clear eg
              generalize hg : ecG kk ss (sgH g9 L9 b9 k9 p9 m9 u9 e9 inp (ss.getD (ss.length - 1) 0) code) = gd at eA ⊢
              refine ks_istore dX7_ask_309 (by decide) rfl ?_
              refine ks_sub [(9, _), (0, _), (1, _), (2, _), (3, _), (4, _), (5, _), (6, _), (7, _), (8, _)] rfl ?_
              refine ks_sub [(0, _), (1, _), (2, _), (3, _), (4, _), (5, _), (9, _)] rfl ?_
              refine l_ak311 ha hb hk20 (hnx T7 (b + (if gd then 1 else 0)) I7 (by omega) (by split <;> omega) ?_)
              rw [eA]
              cases gd with
              | false => rw [if_neg (by decide)]; rfl
              | true => rw [if_pos rfl]; rfl
      · refine ks_iconst (x := nI 0) dX7_ask_191 (by decide) rfl ?_
        refine ks_zret rfl rfl dX7_ask_192 ?_
        refine hno T1 I1 ?_
        rw [eA, if_neg (by rw [← eL, h3]; decide)]
set_option maxRecDepth 100000 in
set_option maxHeartbeats 800000 in
theorem l_akLoop {l : Launch} {G : ks_G} {d : Nat} {S : ks_S} {inp cy pa pe pb ops opn cl kt kc st sc k0 s0 tk op : Nat} {xs ys : List (List Nat)} {u : Nat} {code : List Nat} {y9 N9 L9 b9 k9 p9 m9 u9 e9 : Nat} {g9 : Nat → Nat} (hma : mathOK) (hM : S.2.2 27 = some (mcO inp cy pa pe pb ops opn cl (nI kt) (nI kc) (nI st) (nI sc))) (hO : st_ok S xs ys u) (hB : bfS S 37 38 1600 (some code)) (hV : tv_ok S y9 g9 L9 b9 k9 p9 m9 u9 e9) (hy9 : S.2.2 y9 = some (kB N9 g9)) (hg9 : kO g9) (hL9 : L9 ≤ N9) (hN9 : N9 < 2 ^ 18) (hi9 : inp < k9) (he9 : e9 ≤ u9 + 4000) (hyn : 56 ≤ y9) (hK : ks_stOK S) (hkt : kt + k0 + 1 = xs.length) (hst : st + s0 + 1 = xs.length) (hk0 : k0 + kc ≤ xs.length) (hs0 : s0 + sc ≤ xs.length) (hk20 : kc ≤ 20) (hop : op < 256) (htk : tk ≤ xs.length) {P : Option Value → ks_S → Prop} : ∀ (c a b : Nat) (S1 : ks_S), a + c = kc → b ≤ sc → akI S S1 → (∀ (S2 : ks_S) (e : Nat), akI S S2 → e ≤ sc → askS (fun k s => ecG k s (sgH g9 L9 b9 k9 p9 m9 u9 e9 inp (s.getD (s.length - 1) 0) code)) (((xs.drop k0).take kc).drop a) (((xs.drop s0).take sc).drop b) = some (decide (e = 0)) → ks_X l G mX7_ask (d + 5) 335 [(0, .ref 27), (1, .int (nI op)), (2, .int (nI tk)), (4, .int (nI e))] [] S2 P) → (∀ S2 : ks_S, akI S S2 → askS (fun k s => ecG k s (sgH g9 L9 b9 k9 p9 m9 u9 e9 inp (s.getD (s.length - 1) 0) code)) (((xs.drop k0).take kc).drop a) (((xs.drop s0).take sc).drop b) = none → P (some (.int (ks_bo false))) S2) → ks_X l G mX7_ask (d + 5) 59 [(0, .ref 27), (1, .int (nI op)), (2, .int (nI tk)), (3, .int (nI (kc - a))), (4, .int (nI (sc - b))), (5, .int (nI a))] [] S1 P := by
  intro c
  induction c with
  | zero =>
    intro a b S1 hac hbs hI hk hno
    have bd := hO.bd
    refine ks_iload dX7_ask_59 rfl rfl ?_
    refine ks_bipush (x := nI 20) dX7_ask_61 (by decide) rfl ?_
    refine ks_icmp_geN (tgt := 335) (by omega) (by decide) dX7_ask_63 (by decide) rfl (fun h1 => ?_) (fun h1 => ?_)
    · refine ks_sub [(0, _), (1, _), (2, _), (4, _)] rfl ?_
      refine hk S1 (sc - b) hI (by omega) ?_
      by_cases e0 : sc - b = 0
      · rw [tk_nil (kc := sc) (by omega), decide_eq_true (by omega)]
        cases (((xs.drop k0).take kc).drop a) <;> rfl
      · rw [tk_nil (kc := kc) (by omega), tk_cons (kc := sc) (by omega) hs0, decide_eq_false (by omega)]
        rfl
    · refine ks_iload dX7_ask_66 rfl rfl ?_
      refine ks_if_leN (tgt := 335) (by omega) dX7_ask_68 (by decide) rfl (fun h2 => ?_) (fun h2 => ?_)
      · refine ks_sub [(0, _), (1, _), (2, _), (4, _)] rfl ?_
        refine hk S1 (sc - b) hI (by omega) ?_
        rw [tk_nil (kc := sc) (by omega), decide_eq_true (by omega)]
        cases (((xs.drop k0).take kc).drop a) <;> rfl
      · refine ks_iload dX7_ask_71 rfl rfl ?_
        refine ks_iload_n dX7_ask_73 rfl rfl ?_
        refine ks_icmp_gtN (tgt := 335) (by omega) (by omega) dX7_ask_74 (by decide) rfl (fun h3 => ?_) (fun h3 => ?_)
        · refine ks_sub [(0, _), (1, _), (2, _), (4, _)] rfl ?_
          refine hk S1 (sc - b) hI (by omega) ?_
          rw [tk_nil (kc := kc) (by omega), tk_cons (kc := sc) (by omega) hs0, decide_eq_false (by omega)]
          rfl
        · omega
  | succ c ih =>
    intro a b S1 hac hbs hI hk hno
    have bd := hO.bd
    refine ks_iload dX7_ask_59 rfl rfl ?_
    refine ks_bipush (x := nI 20) dX7_ask_61 (by decide) rfl ?_
    refine ks_icmp_geN (tgt := 335) (by omega) (by decide) dX7_ask_63 (by decide) rfl (fun h1 => ?_) (fun h1 => ?_)
    · refine ks_sub [(0, _), (1, _), (2, _), (4, _)] rfl ?_
      refine hk S1 (sc - b) hI (by omega) ?_
      omega
    · refine ks_iload dX7_ask_66 rfl rfl ?_
      refine ks_if_leN (tgt := 335) (by omega) dX7_ask_68 (by decide) rfl (fun h2 => ?_) (fun h2 => ?_)
      · refine ks_sub [(0, _), (1, _), (2, _), (4, _)] rfl ?_
        refine hk S1 (sc - b) hI (by omega) ?_
        rw [tk_nil (kc := sc) (by omega), decide_eq_true (by omega)]
        cases (((xs.drop k0).take kc).drop a) <;> rfl
      · refine ks_iload dX7_ask_71 rfl rfl ?_
        refine ks_iload_n dX7_ask_73 rfl rfl ?_
        refine ks_icmp_gtN (tgt := 335) (by omega) (by omega) dX7_ask_74 (by decide) rfl (fun h3 => ?_) (fun h3 => ?_)
        · refine ks_sub [(0, _), (1, _), (2, _), (4, _)] rfl ?_
          refine hk S1 (sc - b) hI (by omega) ?_
          rw [tk_cons (kc := kc) (by omega) hk0, tk_cons (kc := sc) (by omega) hs0, askS, tk_len hk0, tk_len hs0, if_pos (by omega), decide_eq_false (by omega)]
        · exact l_akStep hma hM hO hB hV hy9 hg9 hL9 hN9 hi9 he9 hyn hK hkt hst hk0 hs0 hk20 hop htk (by omega) (by omega) (by omega) hI (fun S2 b2 I2 g1 g2 e2 => ih (a + 1) b2 S2 (by omega) (by omega) I2 (fun S3 e I3 h3 h4 => hk S3 e I3 h3 (by rw [e2]; exact h4)) (fun S3 I3 h4 => hno S3 I3 (by rw [e2]; exact h4))) hno

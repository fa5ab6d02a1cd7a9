/-! THE REFERENCE: several, its loops -/
theorem woL_app : ∀ (a b : List (List Nat)) (c : List Nat), woL (a ++ b) c = woL b (woL a c)
  | [], b, c => rfl
  | s :: r, b, c => woL_app r b _
theorem woL_len : ∀ (a : List (List Nat)) (c : List Nat), (woL a c).length ≤ c.length
  | [], c => Nat.le_refl _
  | s :: r, c => Nat.le_trans (woL_len r _) (fl_len _ _ _ (Nat.le_refl _))
theorem gdK.v {S S1 : ks_S} {V V1 : Nat → Value} (h : gdK S S1 V V1) {j : Nat} (hj : j ∉ LMf) : V1 j = V j := (mqK.gd (F := 0) h).2 j hj
theorem LGd_b : ∀ x ∈ LGd, x < 563 := by decide
set_option maxRecDepth 100000 in
set_option maxHeartbeats 800000 in
theorem l_svWo {l : Launch} {G : ks_G} {d : Nat} {S : ks_S} {V : Nat → Value} {F : Nat} {xs ys : List (List Nat)} {vs : Vs} {Gp : Pt} {P y N L t b k p m u e inp : Nat} {G9 : Nat → Nat} (hM : mqS S V F xs ys vs Gp P y N G9 L t b k p m u e inp) (hT9 : mqT P y N G9 k u e inp) {kq mq op : Nat} (hq : kq + mq + 3 ≤ xs.length) (hk20 : kq ≤ 20) (hmk : mq ≤ kq) (hl : xs.length ≤ 1000) {P9 : Option Value → ks_S → Prop} {lf kl si ki : Nat} {gd : Bool} {c : List Nat} (hk : ∀ (S1 : ks_S) (V1 : Nat → Value), gdK S S1 V V1 → gdS S1 V1 Gp P y N G9 L t b k p m u e inp → V1 74 = V 74 → ctX S1 V1 (woL ((xs.drop (kq + 2)).take mq) c) → ks_X l G mX16_several (d + 7) 258 [(0, .ref 290), (1, .int (nI op)), (2, .long (lN kq)), (4, .long (lN mq)), (6, .int (nI (xs.length - 2))), (7, .int (nI (xs.length - 3 - kq))), (8, .int (nI lf)), (9, .int (nI kl)), (10, .int (ks_bo gd)), (11, .int (nI si)), (12, .int (nI ki))] [] S1 P9) : ∀ (f i : Nat) (S1 : ks_S) (V1 : Nat → Value), i + f = mq → gdK S S1 V V1 → gdS S1 V1 Gp P y N G9 L t b k p m u e inp → V1 74 = V 74 → ctX S1 V1 (woL (((xs.drop (kq + 2)).take mq).take i) c) → ks_X l G mX16_several (d + 7) 219 [(0, .ref 290), (1, .int (nI op)), (2, .long (lN kq)), (4, .long (lN mq)), (6, .int (nI (xs.length - 2))), (7, .int (nI (xs.length - 3 - kq))), (8, .int (nI lf)), (9, .int (nI kl)), (10, .int (ks_bo gd)), (11, .int (nI si)), (12, .int (nI ki)), (13, .int (nI i))] [] S1 P9 := by
  obtain ⟨hO, hK, hG, hh, h369, hlow, h368⟩ := id hM
  obtain ⟨T, sz, oz, vz, hK', rfl, gS, kS, h367⟩ := hK
  have hK := hK'
  obtain ⟨hT, ⟨h362, h364, h366⟩, ⟨v67, v70, v73⟩, ⟨bx, by9, bv⟩, hx, hys, hvs, hU⟩ := id hK
  have lsg : ((xs.drop (kq + 2)).take mq).length = mq := by rw [List.length_take, List.length_drop]; omega
  intro f
  induction f with
  | zero =>
    intro i S1 V1 hi g9k gs1 e74 cx
    obtain rfl : i = mq := hi
    rw [List.take_of_length_le (by omega)] at cx
    refine ks_iload dX16_several_219 rfl rfl ?_
    refine ks_i2lN (by omega) dX16_several_221 rfl ?_
    refine ks_lload dX16_several_222 rfl rfl ?_
    refine ks_lif_geN (tgt := 258) (by omega) (by omega) dX16_several_224 rfl dX16_several_225 (by decide) rfl (fun h1 => ?_) (fun h1 => absurd h1 (by omega))
    refine ks_sub [(0, _), (1, _), (2, _), (4, _), (6, _), (7, _), (8, _), (9, _), (10, _), (11, _), (12, _)] rfl ?_
    exact hk S1 V1 g9k gs1 e74 cx
  | succ f ih =>
    intro i S1 V1 hi g9k gs1 e74 cx
    obtain ⟨r2, g2, b1, b2, b3, b4, b5⟩ := hx (xs.length - 3 - kq - i) (by omega)
    rw [show xs.length - 1 - (xs.length - 3 - kq - i) = kq + 2 + i by omega] at b5
    have hr2 := hT.hi hlow.no b1
    obtain ⟨n2, en2⟩ : ∃ n, n = sz (xs.length - 3 - kq - i) := ⟨_, rfl⟩
    rw [← en2] at b4 b5
    have b21 := g9k.1.at b2 (fun hm => by have := LGd_b _ hm; omega)
    have h361 := g9k.1.at (hT.1 0 (by decide)) (by decide)
    have h362' := g9k.1.at h362 (by decide)
    have o1 := g9k.2.1
    have v671 : V1 67 = .int (nI xs.length) := (g9k.2.2 67 (by decide) (by decide) (by decide) (by decide) (by decide) (by decide) (by decide) (by decide)).trans v67
    refine ks_iload dX16_several_219 rfl rfl ?_
    refine ks_i2lN (by omega) dX16_several_221 rfl ?_
    refine ks_lload dX16_several_222 rfl rfl ?_
    refine ks_lif_geN (tgt := 258) (by omega) (by omega) dX16_several_224 rfl dX16_several_225 (by decide) rfl (fun h1 => absurd h1 (by omega)) (fun h1 => ?_)
    refine ks_aload_n dX16_several_228 rfl rfl ?_
    refine ks_aload_n dX16_several_229 rfl rfl ?_
    refine ks_getf (T := TX16) (kf := 65) kx_2433 rfl in_X16 cl_X16 (by decide) o1 rfl dX16_several_230 rfl ?_
    refine ks_iload dX16_several_233 rfl rfl ?_
    refine ks_iload dX16_several_235 rfl rfl ?_
    refine ks_subN (by omega) dX16_several_237 rfl ?_
    refine ks_aaldN (i := xs.length - 3 - kq - i) (b := r2) (by decide) h361 rfl (by omega) (by decide) b1 dX16_several_238 rfl ?_
    refine ks_aload_n dX16_several_239 rfl rfl ?_
    refine ks_getf (T := TX16) (kf := 66) kx_2434 rfl in_X16 cl_X16 (by decide) o1 rfl dX16_several_240 rfl ?_
    refine ks_iload dX16_several_243 rfl rfl ?_
    refine ks_iload dX16_several_245 rfl rfl ?_
    refine ks_subN (by omega) dX16_several_247 rfl ?_
    refine ks_ialdN (i := xs.length - 3 - kq - i) h362' rfl (by omega) (by decide) dX16_several_248 rfl ?_
    rw [← en2]
    refine ks_callV (n := 2) (M' := mX16_without) (c_md_withoutA (d := d + 4) o1 cx b21 b3 b4 (by decide) (by decide)) o1 cl_X16 rfl kx_2241 kx_2243 kxp_104 kx_30 kx_2244 (by decide +kernel) rfl (by decide) (Nat.le_of_ble_eq_true rfl) rfl dX16_several_249 rfl (fun z2 S2 y2 => ?_)
    obtain ⟨rfl, V2, ct2, cx2⟩ := y2
    have es : woL (((xs.drop (kq + 2)).take mq).take (i + 1)) c = fl_ (fun o x => isSg o x (bytL g2 0 n2)) (woL (((xs.drop (kq + 2)).take mq).take i) c) := by
      rw [List.take_add_one, List.getElem?_eq_getElem (by omega), woL_app]
      show fl_ (fun o x => isSg o x (((xs.drop (kq + 2)).take mq)[i]'(by omega))) _ = _
      have e9 : ((xs.drop (kq + 2)).take mq)[i]'(by omega) = bytL g2 0 n2 := by
        rw [← b5, List.getElem_take, List.getElem_drop, List.getD_eq_getElem?_getD, List.getElem?_eq_getElem (by omega)]; rfl
      rw [e9]
    rw [← es] at cx2
    refine ks_incN (c := 1) (e := i + 1) dX16_several_252 rfl (by decide) rfl (by decide) rfl ?_
    refine ks_sub [(13, _), (0, _), (1, _), (2, _), (4, _), (6, _), (7, _), (8, _), (9, _), (10, _), (11, _), (12, _)] rfl ?_
    refine ks_goto (tgt := 219) dX16_several_255 (by decide) ?_
    refine ks_sub [(0, _), (1, _), (2, _), (4, _), (6, _), (7, _), (8, _), (9, _), (10, _), (11, _), (12, _), (13, _)] rfl ?_
    exact ih (i + 1) S2 V2 (by omega) (g9k.trans (gdK.ct ct2)) (gs1.ct hT9 ct2 cx2) ((ct2.2.2 _ (by decide) (by decide) (by decide) (by decide)).trans e74) cx2
set_option maxRecDepth 100000 in
set_option maxHeartbeats 1600000 in
theorem l_svLoop {l : Launch} {G : ks_G} {d : Nat} {S : ks_S} {V : Nat → Value} {F : Nat} {xs ys : List (List Nat)} {vs : Vs} {Gp : Pt} {P y N L t b k p m u e inp : Nat} {G9 : Nat → Nat} (hM : mqS S V F xs ys vs Gp P y N G9 L t b k p m u e inp) (hT9 : mqT P y N G9 k u e inp) {cy Nc pb pe : Nat} {gc : Nat → Nat} (v79 : V 79 = .ref cy) (v80 : V 80 = .int (nI pb)) (v81 : V 81 = .int (nI pe)) (hcd : cdQ S cy Nc pe gc) (hck : cdK vs cy Nc pe gc) (hb9 : pb ≤ pe ∧ pe - pb ≤ 1600) {kq mq op : Nat} (hq : kq + mq + 3 ≤ xs.length) (hk20 : kq ≤ 20) (hmk : mq ≤ kq) (hl : xs.length ≤ 1000) (v74 : V 74 = .int (ks_bo false)) {P9 : Option Value → ks_S → Prop} : ∀ (f a b9 : Nat) (S1 : ks_S) (V1 : Nat → Value), a + f = kq → b9 ≤ mq → gdK S S1 V V1 → gdS S1 V1 Gp P y N G9 L t b k p m u e inp → V1 74 = .int (ks_bo false) → (∀ (S2 : ks_S) (V2 : Nat → Value) (g : Bool), gdK S S2 V V2 → gdS S2 V2 Gp P y N G9 L t b k p m u e inp → V2 74 = .int (ks_bo false) → askS ((gdF Gp G9 L b k p m u e inp) (cln_ ((xs.drop (kq + 2)).take mq) (bytL gc pb (pe - pb)))) (((xs.drop 1).take kq).drop a) (((xs.drop (kq + 2)).take mq).drop b9) = some g → ks_X l G mX16_several (d + 7) 324 [(0, .ref 290), (1, .int (nI op)), (2, .long (lN kq)), (4, .long (lN mq)), (10, .int (ks_bo g))] [] S2 P9) → (∀ (S2 : ks_S) (V2 : Nat → Value), gdK S S2 V V2 → gdS S2 V2 Gp P y N G9 L t b k p m u e inp → V2 74 = .int (ks_bo true) → askS ((gdF Gp G9 L b k p m u e inp) (cln_ ((xs.drop (kq + 2)).take mq) (bytL gc pb (pe - pb)))) (((xs.drop 1).take kq).drop a) (((xs.drop (kq + 2)).take mq).drop b9) = none → P9 none S2) → ks_X l G mX16_several (d + 7) 164 [(0, .ref 290), (1, .int (nI op)), (2, .long (lN kq)), (4, .long (lN mq)), (6, .int (nI (xs.length - 2))), (7, .int (nI (xs.length - 3 - kq))), (8, .int (nI (mq - b9))), (9, .int (nI (kq - a))), (10, .int (ks_bo (decide (mq - b9 ≤ kq - a))))] [] S1 P9 := by
  intro f
  induction f with
  | zero =>
    intro a b9 S1 V1 ha hb g9k gs1 e74 hk hno
    have lsg : (((xs.drop (kq + 2)).take mq).drop b9).length = mq - b9 := tk_len (by omega)
    have lky : (((xs.drop 1).take kq).drop a).length = kq - a := tk_len (by omega)
    refine ks_iload dX16_several_164 rfl rfl ?_
    refine ks_if_eqZ (tgt := 324) dX16_several_166 (by decide) rfl (fun h1 => ?_) (fun h1 => ?_)
    · refine ks_sub [(0, _), (1, _), (2, _), (4, _), (10, _)] rfl ?_
      refine hk S1 V1 _ g9k gs1 e74 ?_
      have h1 : ¬ mq - b9 ≤ kq - a := of_decide_eq_false h1
      rw [decide_eq_false h1]
      have hs := tk_cons (xs := xs) (k0 := kq + 2) (kc := mq) (a := b9) (by omega) (by omega)
      rw [hs]
      cases hky : ((xs.drop 1).take kq).drop a with
      | nil => rfl
      | cons k1 kr =>
        rw [hky] at lky
        rw [hs] at lsg
        show (if kr.length < (((xs.drop (kq + 2)).take mq).drop (b9 + 1)).length then _ else _) = _
        rw [if_pos (by have l1 : kr.length + 1 = kq - a := lky; have l2 : (((xs.drop (kq + 2)).take mq).drop (b9 + 1)).length + 1 = mq - b9 := lsg; omega)]
    · have h1' : mq - b9 ≤ kq - a := of_decide_eq_true h1
      refine ks_iload dX16_several_169 rfl rfl ?_
      refine ks_if_leN (tgt := 324) (by omega) dX16_several_171 (by decide) rfl (fun h2 => ?_) (fun h2 => ?_)
      · refine ks_sub [(0, _), (1, _), (2, _), (4, _), (10, _)] rfl ?_
        refine hk S1 V1 _ g9k gs1 e74 ?_
        rw [decide_eq_true (p := mq - b9 ≤ kq - a) (by omega), tk_nil (xs := xs) (k0 := kq + 2) (kc := mq) (a := b9) (by omega)]
        cases ((xs.drop 1).take kq).drop a <;> rfl
      · exact absurd h2 (by omega)
  | succ f ih =>
    intro a b9 S1 V1 ha hb g9k gs1 e74 hk hno
    have lsg : (((xs.drop (kq + 2)).take mq).drop b9).length = mq - b9 := tk_len (by omega)
    have lky : (((xs.drop 1).take kq).drop a).length = kq - a := tk_len (by omega)
    refine ks_iload dX16_several_164 rfl rfl ?_
    refine ks_if_eqZ (tgt := 324) dX16_several_166 (by decide) rfl (fun h1 => ?_) (fun h1 => ?_)
    · refine ks_sub [(0, _), (1, _), (2, _), (4, _), (10, _)] rfl ?_
      refine hk S1 V1 _ g9k gs1 e74 ?_
      have h1 : ¬ mq - b9 ≤ kq - a := of_decide_eq_false h1
      rw [decide_eq_false h1]
      have hs := tk_cons (xs := xs) (k0 := kq + 2) (kc := mq) (a := b9) (by omega) (by omega)
      rw [hs]
      cases hky : ((xs.drop 1).take kq).drop a with
      | nil => rfl
      | cons k1 kr =>
        rw [hky] at lky
        rw [hs] at lsg
        show (if kr.length < (((xs.drop (kq + 2)).take mq).drop (b9 + 1)).length then _ else _) = _
        rw [if_pos (by have l1 : kr.length + 1 = kq - a := lky; have l2 : (((xs.drop (kq + 2)).take mq).drop (b9 + 1)).length + 1 = mq - b9 := lsg; omega)]
    · have h1' : mq - b9 ≤ kq - a := of_decide_eq_true h1
      refine ks_iload dX16_several_169 rfl rfl ?_
      refine ks_if_leN (tgt := 324) (by omega) dX16_several_171 (by decide) rfl (fun h2 => ?_) (fun h2 => ?_)
      · refine ks_sub [(0, _), (1, _), (2, _), (4, _), (10, _)] rfl ?_
        refine hk S1 V1 _ g9k gs1 e74 ?_
        rw [decide_eq_true (p := mq - b9 ≤ kq - a) (by omega), tk_nil (xs := xs) (k0 := kq + 2) (kc := mq) (a := b9) (by omega)]
        cases ((xs.drop 1).take kq).drop a <;> rfl
      · obtain ⟨hO, hK, hG, hh, h369, hlow, h368⟩ := id hM
        obtain ⟨T, sz, oz, vz, hK', eF, gS, kS, h367⟩ := hK
        have hK := hK'
        obtain ⟨hT, ⟨h362, h364, h366⟩, ⟨v67, v70, v73⟩, ⟨bx, by9, bv⟩, hx, hys, hvs, hU⟩ := id hK
        obtain ⟨r2, g2, b1, b2, b3, b4, b5⟩ := hx (xs.length - 3 - kq - b9) (by omega)
        rw [show xs.length - 1 - (xs.length - 3 - kq - b9) = kq + 2 + b9 by omega] at b5
        have hr2 := hT.hi hlow.no b1
        obtain ⟨n2, en2⟩ : ∃ n, n = sz (xs.length - 3 - kq - b9) := ⟨_, rfl⟩
        rw [← en2] at b4 b5
        obtain ⟨r1, g1, a1, a2, a3, a4, a5⟩ := hx (xs.length - 2 - a) (by omega)
        rw [show xs.length - 1 - (xs.length - 2 - a) = 1 + a by omega] at a5
        have hr1 := hT.hi hlow.no a1
        obtain ⟨n1, en1⟩ : ∃ n, n = sz (xs.length - 2 - a) := ⟨_, rfl⟩
        rw [← en1] at a4 a5
        obtain ⟨⟨hcy, hN1, hN2, hN3⟩, -⟩ := id hck
        obtain ⟨hg9, hi9, -, -, -⟩ := id hT9
        have M1 := hM.gd g9k gs1
        obtain ⟨gr, kgr, hcr, ecr⟩ := hcd.step hck (sfK.of (F := 0) g9k.1) (fun x hx => by have := LGd_b x hx; omega) M1.2.1
        have ec : bytL gr pb (pe - pb) = bytL gc pb (pe - pb) := bytL_c (fun j hj => ecr _ (by omega))
        obtain ⟨c0, hC0⟩ := gs1.2.2.2.2.2.1
        have lc : (bytL gc pb (pe - pb)).length ≤ 1600 := by rw [bytL_len]; omega
        have w79 := (g9k.v (j := 79) (by decide)).trans v79
        have w80 := (g9k.v (j := 80) (by decide)).trans v80
        have w81 := (g9k.v (j := 81) (by decide)).trans v81
        have h361 := g9k.1.at (hT.1 0 (by decide)) (by decide)
        have h362' := g9k.1.at h362 (by decide)
        have o1 := g9k.2.1
        have v671 : V1 67 = .int (nI xs.length) := (g9k.2.2 67 (by decide) (by decide) (by decide) (by decide) (by decide) (by decide) (by decide) (by decide)).trans v67
        refine ks_iload dX16_several_174 rfl rfl ?_
        refine ks_lload dX16_several_176 rfl rfl ?_
        refine ks_l2iN dX16_several_178 rfl ?_
        refine ks_iload dX16_several_179 rfl rfl ?_
        refine ks_subN (by omega) dX16_several_181 rfl ?_
        refine ks_subN (by omega) dX16_several_182 rfl ?_
        refine ks_ti (y := nI (xs.length - 3 - kq - b9)) (congrArg nI (by omega)) ?_
        refine ks_istore dX16_several_183 (by decide) rfl ?_
        refine ks_sub [(11, _), (0, _), (1, _), (2, _), (4, _), (6, _), (7, _), (8, _), (9, _), (10, _)] rfl ?_
        refine ks_iload dX16_several_185 rfl rfl ?_
        refine ks_lload_n dX16_several_187 rfl rfl ?_
        refine ks_l2iN dX16_several_188 rfl ?_
        refine ks_iload dX16_several_189 rfl rfl ?_
        refine ks_subN (by omega) dX16_several_191 rfl ?_
        refine ks_subN (by omega) dX16_several_192 rfl ?_
        refine ks_ti (y := nI (xs.length - 2 - a)) (congrArg nI (by omega)) ?_
        refine ks_istore dX16_several_193 (by decide) rfl ?_
        refine ks_sub [(12, _), (0, _), (1, _), (2, _), (4, _), (6, _), (7, _), (8, _), (9, _), (10, _), (11, _)] rfl ?_
        refine ks_aload_n dX16_several_195 rfl rfl ?_
        refine ks_aload_n dX16_several_196 rfl rfl ?_
        refine ks_getf (T := TX16) (kf := 79) kx_2447 rfl in_X16 cl_X16 (by decide) o1 rfl dX16_several_197 rfl ?_
        refine ks_tv w79 ?_
        refine ks_aload_n dX16_several_200 rfl rfl ?_
        refine ks_getf (T := TX16) (kf := 80) kx_2448 rfl in_X16 cl_X16 (by decide) o1 rfl dX16_several_201 rfl ?_
        refine ks_tv w80 ?_
        refine ks_aload_n dX16_several_204 rfl rfl ?_
        refine ks_getf (T := TX16) (kf := 81) kx_2449 rfl in_X16 cl_X16 (by decide) o1 rfl dX16_several_205 rfl ?_
        refine ks_tv w81 ?_
        refine ks_aload_n dX16_several_208 rfl rfl ?_
        refine ks_getf (T := TX16) (kf := 80) kx_2448 rfl in_X16 cl_X16 (by decide) o1 rfl dX16_several_209 rfl ?_
        refine ks_tv w80 ?_
        refine ks_subN (by omega) dX16_several_212 rfl ?_
        refine ks_callV (n := 3) (M' := mX16_load) (c_md_load (d := d + 6) o1 hC0 hcr kgr (s := pb) (n := pe - pb) (by omega) (Nat.lt_trans hN2 (by decide)) (by omega) hN1) o1 cl_X16 rfl kx_2237 kx_2239 kxp_103 kx_30 kx_2240 (by decide +kernel) rfl (by decide) (Nat.le_of_ble_eq_true rfl) rfl dX16_several_213 rfl (fun z2 S2 y2 => ?_)
        obtain ⟨rfl, V2, ct2, cx2⟩ := y2
        rw [ec] at cx2
        have gs2 := gs1.ct hT9 ct2 cx2
        have v742 : V2 74 = .int (ks_bo false) := (ct2.2.2 _ (by decide) (by decide) (by decide) (by decide)).trans e74
        refine ks_iconst (x := nI 0) dX16_several_216 (by decide) rfl ?_
        refine ks_istore dX16_several_217 (by decide) rfl ?_
        refine ks_sub [(13, _), (0, _), (1, _), (2, _), (4, _), (6, _), (7, _), (8, _), (9, _), (10, _), (11, _), (12, _)] rfl ?_
        refine ks_sub [(0, _), (1, _), (2, _), (4, _), (6, _), (7, _), (8, _), (9, _), (10, _), (11, _), (12, _), (13, _)] rfl ?_
        refine l_svWo hM hT9 hq hk20 hmk hl (c := bytL gc pb (pe - pb)) (fun S3 V3 k3 gs3 v743 cx3 => ?_) mq 0 S2 V2 (Nat.zero_add _) (g9k.trans (gdK.ct ct2)) gs2 (v742.trans v74.symm) cx2
        rw [v74] at v743
        have h361' := k3.1.at (hT.1 0 (by decide)) (by decide)
        have h362'' := k3.1.at h362 (by decide)
        have o3 := k3.2.1
        have a23 := k3.1.at a2 (fun hm => by have := LGd_b _ hm; omega)
        have b23 := k3.1.at b2 (fun hm => by have := LGd_b _ hm; omega)
        refine ks_aload_n dX16_several_258 rfl rfl ?_
        refine ks_aload_n dX16_several_259 rfl rfl ?_
        refine ks_getf (T := TX16) (kf := 65) kx_2433 rfl in_X16 cl_X16 (by decide) o3 rfl dX16_several_260 rfl ?_
        refine ks_iload dX16_several_263 rfl rfl ?_
        refine ks_aaldN (i := xs.length - 3 - kq - b9) (b := r2) (by decide) h361' rfl (by omega) (by decide) b1 dX16_several_265 rfl ?_
        refine ks_aload_n dX16_several_266 rfl rfl ?_
        refine ks_getf (T := TX16) (kf := 66) kx_2434 rfl in_X16 cl_X16 (by decide) o3 rfl dX16_several_267 rfl ?_
        refine ks_iload dX16_several_270 rfl rfl ?_
        refine ks_ialdN (i := xs.length - 3 - kq - b9) h362'' rfl (by omega) (by decide) dX16_several_272 rfl ?_
        rw [← en2]
        refine ks_aload_n dX16_several_273 rfl rfl ?_
        refine ks_getf (T := TX16) (kf := 65) kx_2433 rfl in_X16 cl_X16 (by decide) o3 rfl dX16_several_274 rfl ?_
        refine ks_iload dX16_several_277 rfl rfl ?_
        refine ks_aaldN (i := xs.length - 2 - a) (b := r1) (by decide) h361' rfl (by omega) (by decide) a1 dX16_several_279 rfl ?_
        refine ks_aload_n dX16_several_280 rfl rfl ?_
        refine ks_getf (T := TX16) (kf := 66) kx_2434 rfl in_X16 cl_X16 (by decide) o3 rfl dX16_several_281 rfl ?_
        refine ks_iload dX16_several_284 rfl rfl ?_
        refine ks_ialdN (i := xs.length - 2 - a) h362'' rfl (by omega) (by decide) dX16_several_286 rfl ?_
        rw [← en1]
        refine ks_callV (n := 4) (M' := mX16_isGood) (c_md_isGood (d := d) o3 gs3 hg9 hT9.ds hi9 cx3 b23 b3 a23 a3 b4 a4 ⟨hr2, hr1⟩ (gs3.fit hT9 (Nat.le_trans (woL_len _ _) lc))) o3 cl_X16 rfl kx_2245 kx_2247 kxp_105 kx_30 kx_2248 (by decide +kernel) rfl (by decide) (Nat.le_of_ble_eq_true rfl) rfl dX16_several_287 rfl (fun z4 S4 y4 => ?_)
        obtain ⟨V4, k4, gs4, -, rfl, e744⟩ := y4
        rw [cln_wo]
        obtain ⟨gb, egb⟩ : ∃ x : Bool, x = (decide (n2 ≠ 0) && (sgF g2 0 n2 && ecF Gp (bytL g1 0 n1) (bytL g2 0 n2) (sgH G9 L b k p m u e inp (g2 (n2 - 1)) (cln_ ((xs.drop (kq + 2)).take mq) (bytL gc pb (pe - pb)))))) := ⟨_, rfl⟩
        rw [← egb]
        have o4 := k4.2.1
        have k34 := k3.trans k4
        rw [v743] at e744
        have eas : askS ((gdF Gp G9 L b k p m u e inp) (cln_ ((xs.drop (kq + 2)).take mq) (bytL gc pb (pe - pb)))) (((xs.drop 1).take kq).drop a) (((xs.drop (kq + 2)).take mq).drop b9) = (if n2 ≠ 0 ∧ sgF g2 0 n2 = false then none else askS ((gdF Gp G9 L b k p m u e inp) (cln_ ((xs.drop (kq + 2)).take mq) (bytL gc pb (pe - pb)))) (((xs.drop 1).take kq).drop (a + 1)) (((xs.drop (kq + 2)).take mq).drop (b9 + (if gb = true then 1 else 0)))) := by
          have hs := tk_cons (xs := xs) (k0 := kq + 2) (kc := mq) (a := b9) (by omega) (by omega)
          have hy := tk_cons (xs := xs) (k0 := 1) (kc := kq) (a := a) (by omega) (by omega)
          have l1 := tk_len (xs := xs) (k0 := 1) (kc := kq) (a := a + 1) (by omega)
          have l2 := tk_len (xs := xs) (k0 := kq + 2) (kc := mq) (a := b9 + 1) (by omega)
          rw [b5] at hs
          rw [a5] at hy
          rw [hy, hs]
          show (if (((xs.drop 1).take kq).drop (a + 1)).length < (((xs.drop (kq + 2)).take mq).drop (b9 + 1)).length then some false else if bytL g2 0 n2 = [] then _ else if sgFL (bytL g2 0 n2) = true then (if _ then _ else _) else none) = _
          rw [if_neg (by omega), sgFL_b]
          by_cases h0 : n2 = 0
          · rw [if_pos (bytL_nil.mpr h0), if_neg (fun h => h.1 h0)]
            have : gb = false := by rw [egb, decide_eq_false (p := n2 ≠ 0) (fun h => h h0), Bool.false_and]
            rw [this, if_neg (by decide), Nat.add_zero b9, hs]
          · rw [if_neg (fun h => h0 (bytL_nil.mp h))]
            cases hsf : sgF g2 0 n2 with
            | false => rw [if_neg (by decide), if_pos ⟨h0, rfl⟩]
            | true =>
              rw [if_pos rfl, if_neg (show ¬ (n2 ≠ 0 ∧ true = false) from fun h => by cases h.2)]
              have eg : gb = gdF Gp G9 L b k p m u e inp (cln_ ((xs.drop (kq + 2)).take mq) (bytL gc pb (pe - pb))) (bytL g1 0 n1) (bytL g2 0 n2) := by
                rw [egb, decide_eq_true (p := n2 ≠ 0) h0, Bool.true_and, hsf, Bool.true_and, gd_b h0]
              rw [← eg]
              cases gb with
              | true => rw [if_pos rfl, if_pos rfl]
              | false => rw [if_neg (by decide), if_neg (by decide), Nat.add_zero b9, hs]
        rw [eas] at hk hno
        by_cases bad : n2 ≠ 0 ∧ sgF g2 0 n2 = false
        · rw [if_pos bad] at e744 hk hno
          refine ks_if_eqZ (tgt := 296) dX16_several_290 (by decide) rfl (fun h6 => ?_) (fun h6 => ?_)
          · have gbt : gb = false := by simpa using h6
            refine ks_aload_n dX16_several_296 rfl rfl ?_
            refine ks_getf (T := TX16) (kf := 74) kx_2442 rfl in_X16 cl_X16 (by decide) o4 rfl dX16_several_297 rfl ?_
            refine ks_tv e744 ?_
            refine ks_if_eqZ (tgt := 304) dX16_several_300 (by decide) rfl (fun h7 => ?_) (fun h7 => ?_)
            · exact absurd h7 (by decide)
            · refine ks_ret rfl dX16_several_303 ?_
              exact hno S4 V4 k34 gs4 e744 rfl
          · have gbt : gb = true := by simpa using h6
            refine ks_decN (e := mq - (b9 + 1)) dX16_several_293 rfl (by decide) (by omega) (by decide) rfl ?_
            refine ks_sub [(8, _), (0, _), (1, _), (2, _), (4, _), (6, _), (7, _), (9, _), (10, _), (11, _), (12, _)] rfl ?_
            refine ks_aload_n dX16_several_296 rfl rfl ?_
            refine ks_getf (T := TX16) (kf := 74) kx_2442 rfl in_X16 cl_X16 (by decide) o4 rfl dX16_several_297 rfl ?_
            refine ks_tv e744 ?_
            refine ks_if_eqZ (tgt := 304) dX16_several_300 (by decide) rfl (fun h7 => ?_) (fun h7 => ?_)
            · exact absurd h7 (by decide)
            · refine ks_ret rfl dX16_several_303 ?_
              exact hno S4 V4 k34 gs4 e744 rfl
        · rw [if_neg bad] at e744 hk hno
          refine ks_if_eqZ (tgt := 296) dX16_several_290 (by decide) rfl (fun h6 => ?_) (fun h6 => ?_)
          · have gbt : gb = false := by simpa using h6
            refine ks_aload_n dX16_several_296 rfl rfl ?_
            refine ks_getf (T := TX16) (kf := 74) kx_2442 rfl in_X16 cl_X16 (by decide) o4 rfl dX16_several_297 rfl ?_
            refine ks_tv e744 ?_
            refine ks_if_eqZ (tgt := 304) dX16_several_300 (by decide) rfl (fun h7 => ?_) (fun h7 => ?_)
            · refine ks_decN (e := kq - (a + 1)) dX16_several_304 rfl (by decide) (by omega) (by decide) rfl ?_
              refine ks_sub [(9, _), (0, _), (1, _), (2, _), (4, _), (6, _), (7, _), (8, _), (10, _), (11, _), (12, _)] rfl ?_
              refine ks_iload dX16_several_307 rfl rfl ?_
              refine ks_iload dX16_several_309 rfl rfl ?_
              refine ks_icmp_gtN (tgt := 318) (by omega) (by omega) dX16_several_311 (by decide) rfl (fun h8 => ?_) (fun h8 => ?_)
              · refine ks_iconst (x := nI 0) dX16_several_318 (by decide) rfl ?_
                refine ks_ti (y := ks_bo (decide (mq - (b9) ≤ kq - (a + 1)))) (by rw [decide_eq_false (p := mq - (b9) ≤ kq - (a + 1)) (by omega)]; rfl) ?_
                refine ks_istore dX16_several_319 (by decide) rfl ?_
                refine ks_sub [(10, _), (0, _), (1, _), (2, _), (4, _), (6, _), (7, _), (8, _), (9, _), (11, _), (12, _)] rfl ?_
                refine ks_goto (tgt := 164) dX16_several_321 (by decide) ?_
                rw [gbt] at hk hno
                refine ks_sub [(0, _), (1, _), (2, _), (4, _), (6, _), (7, _), (8, _), (9, _), (10, _)] rfl ?_
                exact ih (a + 1) (b9) S4 V4 (by omega) (by omega) k34 gs4 e744 hk hno
              · refine ks_iconst (x := nI 1) dX16_several_314 (by decide) rfl ?_
                refine ks_goto (tgt := 319) dX16_several_315 (by decide) ?_
                refine ks_ti (y := ks_bo (decide (mq - (b9) ≤ kq - (a + 1)))) (by rw [decide_eq_true (p := mq - (b9) ≤ kq - (a + 1)) (by omega)]; rfl) ?_
                refine ks_istore dX16_several_319 (by decide) rfl ?_
                refine ks_sub [(10, _), (0, _), (1, _), (2, _), (4, _), (6, _), (7, _), (8, _), (9, _), (11, _), (12, _)] rfl ?_
                refine ks_goto (tgt := 164) dX16_several_321 (by decide) ?_
                rw [gbt] at hk hno
                refine ks_sub [(0, _), (1, _), (2, _), (4, _), (6, _), (7, _), (8, _), (9, _), (10, _)] rfl ?_
                exact ih (a + 1) (b9) S4 V4 (by omega) (by omega) k34 gs4 e744 hk hno
            · exact absurd h7 (by decide)
          · have gbt : gb = true := by simpa using h6
            refine ks_decN (e := mq - (b9 + 1)) dX16_several_293 rfl (by decide) (by omega) (by decide) rfl ?_
            refine ks_sub [(8, _), (0, _), (1, _), (2, _), (4, _), (6, _), (7, _), (9, _), (10, _), (11, _), (12, _)] rfl ?_
            refine ks_aload_n dX16_several_296 rfl rfl ?_
            refine ks_getf (T := TX16) (kf := 74) kx_2442 rfl in_X16 cl_X16 (by decide) o4 rfl dX16_several_297 rfl ?_
            refine ks_tv e744 ?_
            refine ks_if_eqZ (tgt := 304) dX16_several_300 (by decide) rfl (fun h7 => ?_) (fun h7 => ?_)
            · refine ks_decN (e := kq - (a + 1)) dX16_several_304 rfl (by decide) (by omega) (by decide) rfl ?_
              refine ks_sub [(9, _), (0, _), (1, _), (2, _), (4, _), (6, _), (7, _), (8, _), (10, _), (11, _), (12, _)] rfl ?_
              refine ks_iload dX16_several_307 rfl rfl ?_
              refine ks_iload dX16_several_309 rfl rfl ?_
              refine ks_icmp_gtN (tgt := 318) (by omega) (by omega) dX16_several_311 (by decide) rfl (fun h8 => ?_) (fun h8 => ?_)
              · refine ks_iconst (x := nI 0) dX16_several_318 (by decide) rfl ?_
                refine ks_ti (y := ks_bo (decide (mq - (b9 + 1) ≤ kq - (a + 1)))) (by rw [decide_eq_false (p := mq - (b9 + 1) ≤ kq - (a + 1)) (by omega)]; rfl) ?_
                refine ks_istore dX16_several_319 (by decide) rfl ?_
                refine ks_sub [(10, _), (0, _), (1, _), (2, _), (4, _), (6, _), (7, _), (8, _), (9, _), (11, _), (12, _)] rfl ?_
                refine ks_goto (tgt := 164) dX16_several_321 (by decide) ?_
                rw [gbt] at hk hno
                refine ks_sub [(0, _), (1, _), (2, _), (4, _), (6, _), (7, _), (8, _), (9, _), (10, _)] rfl ?_
                exact ih (a + 1) (b9 + 1) S4 V4 (by omega) (by omega) k34 gs4 e744 hk hno
              · refine ks_iconst (x := nI 1) dX16_several_314 (by decide) rfl ?_
                refine ks_goto (tgt := 319) dX16_several_315 (by decide) ?_
                refine ks_ti (y := ks_bo (decide (mq - (b9 + 1) ≤ kq - (a + 1)))) (by rw [decide_eq_true (p := mq - (b9 + 1) ≤ kq - (a + 1)) (by omega)]; rfl) ?_
                refine ks_istore dX16_several_319 (by decide) rfl ?_
                refine ks_sub [(10, _), (0, _), (1, _), (2, _), (4, _), (6, _), (7, _), (8, _), (9, _), (11, _), (12, _)] rfl ?_
                refine ks_goto (tgt := 164) dX16_several_321 (by decide) ?_
                rw [gbt] at hk hno
                refine ks_sub [(0, _), (1, _), (2, _), (4, _), (6, _), (7, _), (8, _), (9, _), (10, _)] rfl ?_
                exact ih (a + 1) (b9 + 1) S4 V4 (by omega) (by omega) k34 gs4 e744 hk hno
            · exact absurd h7 (by decide)

/-! MACHINE: ask -/
def akE (op : Nat) (b : Bool) (r ys : List (List Nat)) : Option (List (List Nat) × List (List Nat)) := if op = 173 ∨ op = 175 then (if b = true then some (r, ys) else none) else some (flagL b :: r, ys)
def akB (op : Nat) (r ys : List (List Nat)) (o : Option Bool) : Option (List (List Nat) × List (List Nat)) := match o with
  | none => none
  | some b => akE op b r ys
/-- 172 .. 175; GD: whether a signature is good for a key, by the code; c: the script from where its code begins -/
def akS (GD : List Nat → List Nat → List Nat → Bool) (op : Nat) (xs ys : List (List Nat)) (ops : Nat) (c : List Nat) : Option (List (List Nat) × List (List Nat)) :=
  if op < 174 then (if xs.length < 2 then none else akB op (xs.drop 2) ys (askS (GD (cln_ ((xs.drop 1).take 1) c)) ((xs.drop 0).take 1) ((xs.drop 1).take 1)))
  else match gmS xs ops with
    | none => none
    | some q => akB op (xs.drop (q.1 + q.2 + 3)) ys (askS (GD (cln_ ((xs.drop (q.1 + 2)).take q.2) c)) ((xs.drop 1).take q.1) ((xs.drop (q.1 + 2)).take q.2))
def akO (op : Nat) (xs : List (List Nat)) (ops : Nat) : Nat := if op < 174 then ops else match gmS xs ops with
  | none => ops
  | some q => ops + q.1
abbrev LAs : List Nat := [27, 37, 38, 14, 16, 18, 19, 8, 9, 10, 11, 28, 39, 40, 29, 30, 31, 32, 33, 34, 35]
/-- what the machine needs of the others -/
def mcW (S : ks_S) : Prop := cuI S ∧ hsO S ∧ (∃ g, kO g ∧ S.2.2 28 = some (kB 32 g)) ∧ (∃ ob, bfS S 39 40 8000 ob) ∧ (∃ ob, bfS S 37 38 1600 ob)
theorem mcW.up {S S1 : ks_S} {L : List Nat} (h : mcW S) (hu : ks_up S S1 L) (hn : ∀ x ∈ L, x ∈ [20, 21, 22, 23, 24, 25, 26, 27, 29, 30, 31, 32, 33, 34, 35, 36] ∨ 40 < x) : mcW S1 := by
  obtain ⟨h1, h2, ⟨g, h3, h4⟩, ⟨o1, h5⟩, o2, h6⟩ := h
  have n : ∀ x, x ∉ ([20, 21, 22, 23, 24, 25, 26, 27, 29, 30, 31, 32, 33, 34, 35, 36] : List Nat) → x ≤ 40 → x ∉ L := fun x a b hx => by
    rcases hn x hx with h | h
    · exact a h
    · omega
  refine ⟨h1.up hu (fun x hx => ?_), hs_ok.up h2 hu (fun x hx => ?_), ⟨g, h3, hu.at h4 (n _ (by decide) (by decide))⟩, ⟨o1, h5.up hu (n _ (by decide) (by decide)) (n _ (by decide) (by decide))⟩, o2, h6.up hu (n _ (by decide) (by decide)) (n _ (by decide) (by decide))⟩
  · rcases hn x hx with h | h
    · simp only [List.mem_cons, List.not_mem_nil, or_false] at h; omega
    · omega
  · rcases hn x hx with h | h
    · simp only [List.mem_cons, List.not_mem_nil, or_false] at h; omega
    · omega
theorem mcR.pre {L L2 : List Nat} {S S1 S2 : ks_S} {u b : Nat} {r : Option (List (List Nat) × List (List Nat))} {z : Option Value} (h1 : ks_up S S1 L2) (h0 : 30 ∉ L2 ∧ ∀ a, a ∈ L2 → a ∈ L) (h : mcR L S1 u b r z S2) : mcR L S u b r z S2 := by
  cases r with
  | none => exact ⟨h.1, (h1.mono h0.2).trans h.2.1, h.2.2⟩
  | some q => exact ⟨h.1, (stV.of h1 h0.1 h0.2).trans h.2.1 (Nat.le_refl _), h.2.2⟩
theorem gmS_b {xs : List (List Nat)} {ops : Nat} {q : Nat × Nat} (h : gmS xs ops = some q) : q.1 ≤ 20 ∧ q.1 + q.2 + 3 ≤ xs.length ∧ ops + q.1 ≤ 201 := by
  unfold gmS at h
  split at h
  · split at h
    · next h2 =>
      split at h
      · next h3 =>
        split at h
        · next h4 =>
          cases h
          exact ⟨by omega, h4.2.2, h3.1⟩
        · cases h
      · cases h
    · cases h
  · cases h
set_option maxRecDepth 100000 in
set_option maxHeartbeats 800000 in
theorem l_akTail {l : Launch} {G : ks_G} {d : Nat} {S : ks_S} {inp cy pa pe pb ops opn cl kt kc st sc k0 s0 tk op : Nat} {xs ys : List (List Nat)} {u : Nat} {y9 N9 L9 b9 k9 p9 m9 u9 e9 : Nat} {g9 : Nat → Nat} (hma : mathOK) (hM : S.2.2 27 = some (mcO inp cy pa pe pb ops opn cl (nI kt) (nI kc) (nI st) (nI sc))) (hO : st_ok S xs ys u) (hW : mcW S) (hV : tv_ok S y9 g9 L9 b9 k9 p9 m9 u9 e9) (hy9 : S.2.2 y9 = some (kB N9 g9)) (hg9 : kO g9) (hL9 : L9 ≤ N9) (hN9 : N9 < 2 ^ 18) (hi9 : inp < k9) (he9 : e9 ≤ u9 + 4000) (hyn : 56 ≤ y9) (hK : ks_stOK S) (hkt : kt + k0 + 1 = xs.length) (hst : st + s0 + 1 = xs.length) (hk0 : k0 + kc ≤ xs.length) (hs0 : s0 + sc ≤ xs.length) (hk20 : kc ≤ 20) (hop : op < 256) (htk : tk ≤ xs.length) {Nc : Nat} {gc : Nat → Nat} (hcy : S.2.2 cy = some (kB Nc gc)) (hgc : kO gc) (hNc : Nc < 2 ^ 20) (hbe : pb ≤ pe) (hpe : pe ≤ Nc) (h16 : pe - pb ≤ 1600) (hcn : cy ∉ ([38, 37] : List Nat)) (hcy27 : cy ≠ 27) (hl : xs.length ≤ 1000) (hu1 : u + 1 ≤ 24096) : ks_X l G mX7_ask (d + 5) 25 [(0, .ref 27), (1, .int (nI op)), (2, .int (nI tk))] [] S (fun z S' => mcR LAs S u 1 (akB op (xs.drop tk) ys (askS ((fun code k s => ecG k s (sgH g9 L9 b9 k9 p9 m9 u9 e9 inp (s.getD (s.length - 1) 0) code)) (cln_ ((xs.drop s0).take sc) (bytL gc pb (pe - pb)))) ((xs.drop k0).take kc) ((xs.drop s0).take sc))) z S' ∧ mcW S' ∧ ∃ i1 i2 i3 i4, S'.2.2 27 = some (mcO inp cy pa pe pb ops opn cl i1 i2 i3 i4)) := by
  have bd := hO.bd
  obtain ⟨hcu, hhs, ⟨g28, kg28, h28⟩, ⟨ob, hob⟩, ob2, hob2⟩ := hW
  refine ks_aload_n dX7_ask_25 rfl rfl ?_
  refine ks_aload_n dX7_ask_26 rfl rfl ?_
  refine ks_getf (T := TX7) (kf := 9) kx_652 rfl in_X7 cl_X7 (by decide) hM rfl dX7_ask_27 rfl ?_
  refine ks_aload_n dX7_ask_30 rfl rfl ?_
  refine ks_getf (T := TX7) (kf := 12) kx_655 rfl in_X7 cl_X7 (by decide) hM rfl dX7_ask_31 rfl ?_
  refine ks_aload_n dX7_ask_34 rfl rfl ?_
  refine ks_getf (T := TX7) (kf := 11) kx_654 rfl in_X7 cl_X7 (by decide) hM rfl dX7_ask_35 rfl ?_
  refine ks_aload_n dX7_ask_38 rfl rfl ?_
  refine ks_getf (T := TX7) (kf := 19) kx_662 rfl in_X7 cl_X7 (by decide) hM rfl dX7_ask_39 rfl ?_
  refine ks_callV (n := 4) (M' := mX7_cleanCode) (c_mc_cleanCode (d := d + 2) hM hO hcy hgc hNc hbe hpe h16 hcn (by omega) (by omega) hob2) hM cl_X7 rfl kx_1605 kx_1327 kx_1328 kx_24 kx_1329 (by decide +kernel) rfl (by decide) (Nat.le_of_ble_eq_true rfl) rfl dX7_ask_42 rfl (fun z1 T1 y1 => ?_)
  obtain ⟨rfl, u1, B1⟩ := y1
  rw [show xs.length - 1 - st = s0 by omega] at B1
  have M1 := u1.at hM (by decide)
  have O1 : st_ok T1 xs ys u := hO.up u1 (by decide)
  have K1 := u1.st hK (by unfold ks_B; decide)
  have y1 := u1.at hy9 (by simp only [List.mem_cons, List.not_mem_nil, or_false, not_or]; omega)
  generalize hcode : cln_ ((xs.drop s0).take sc) (bytL gc pb (pe - pb)) = code at B1 ⊢
  have I1 : akI T1 T1 := ⟨ks_up.rf _ _, hcu.up u1 (by decide), hs_ok.up hhs u1 (by decide), ⟨g28, kg28, u1.at h28 (by decide)⟩, ob, hob.up u1 (by decide) (by decide)⟩
  refine ks_aload_n dX7_ask_45 rfl rfl ?_
  refine ks_getf (T := TX7) (kf := 17) kx_660 rfl in_X7 cl_X7 (by decide) M1 rfl dX7_ask_46 rfl ?_
  refine ks_istore_n dX7_ask_49 (by decide) rfl ?_
  refine ks_sub [(3, _), (0, _), (1, _), (2, _)] rfl ?_
  refine ks_aload_n dX7_ask_50 rfl rfl ?_
  refine ks_getf (T := TX7) (kf := 19) kx_662 rfl in_X7 cl_X7 (by decide) M1 rfl dX7_ask_51 rfl ?_
  refine ks_istore dX7_ask_54 (by decide) rfl ?_
  refine ks_sub [(4, _), (0, _), (1, _), (2, _), (3, _)] rfl ?_
  refine ks_iconst (x := nI 0) dX7_ask_56 (by decide) rfl ?_
  refine ks_istore dX7_ask_57 (by decide) rfl ?_
  refine ks_sub [(5, _), (0, _), (1, _), (2, _), (3, _), (4, _)] rfl ?_
  refine ks_sub [(0, _), (1, _), (2, _), (3, _), (4, _), (5, _)] rfl (l_akLoop hma M1 O1 B1 (hV.up u1 (by decide)) y1 hg9 hL9 hN9 hi9 he9 hyn K1 hkt hst hk0 hs0 hk20 hop htk kc 0 0 T1 (by omega) (Nat.zero_le _) I1 (fun S2 e I2 he h2 => ?_) (fun S2 I2 h2 => ?_))
  · rw [List.drop_zero, List.drop_zero] at h2
    rw [h2]
    obtain ⟨v2, c2, H2, ⟨g2, kg2, w2⟩, o2, B2⟩ := I2
    have M2 := v2.at M1 (by decide)
    have O2 : st_ok S2 xs ys u := O1.up v2 (by decide)
    have C2 := B1.up v2 (by decide) (by decide)
    refine ks_aload_n dX7_ask_335 rfl rfl ?_
    refine ks_getf (T := TX7) (kf := 3) kx_646 rfl in_X7 cl_X7 (by decide) M2 rfl dX7_ask_336 rfl ?_
    refine ks_iload_n dX7_ask_339 rfl rfl ?_
    refine ks_callV (n := 1) (M' := mX8_drop) (c_st_drop (d := d + 4) (c := tk) O2 htk) O2.ob cl_X8 rfl kx_1575 kx_1576 kx_1577 kx_25 kx_1578 (by decide +kernel) rfl (by decide) (Nat.le_of_ble_eq_true rfl) rfl dX7_ask_340 rfl (fun z3 T3 y3 => ?_)
    obtain ⟨rfl, u3, O3⟩ := y3
    have M3 := u3.1.at M2 (by decide)
    have s1 : stV LAs S T1 u := stV.of u1 (by decide) (by decide)
    have s2 : stV LAs T1 S2 u := stV.of v2 (by decide) (by decide)
    have s3 : stV LAs S2 T3 u := u3.v (by decide)
    have s13 := s1.trans (s2.trans s3 (Nat.le_refl _)) (Nat.le_refl _)
    have W3 : mcW T3 := ⟨c2.up u3.1 (by decide), hs_ok.up H2 u3.1 (by decide), ⟨g2, kg2, u3.1.at w2 (by decide)⟩, ⟨o2, B2.up u3.1 (by decide) (by decide)⟩, _, C2.up u3.1 (by decide) (by decide)⟩
    refine ks_pop dX7_ask_343 rfl rfl ?_
    refine ks_iload_n dX7_ask_344 rfl rfl ?_
    refine ks_sipush (x := nI 173) dX7_ask_345 (by decide) rfl ?_
    refine ks_icmp_eqN (tgt := 358) (by omega) (by decide) dX7_ask_348 (by decide) rfl (fun hc348 => ?_) (fun hc348 => ?_)
    · refine ks_iload dX7_ask_358 rfl rfl ?_
      refine ks_if_neN (tgt := 367) (by omega) dX7_ask_360 (by decide) rfl (fun hc360 => ?_) (fun hc360 => ?_)
      · refine ks_iconst (x := nI 0) dX7_ask_367 (by decide) rfl ?_
        refine ks_goto (tgt := 388) dX7_ask_368 (by decide) ?_
        refine ks_zret rfl rfl dX7_ask_388 ?_
        have ef : decide (e = 0) = false := decide_eq_false (by omega)
        rw [ef]
        have er : akB op (xs.drop tk) ys (some false) = none := (if_pos (by omega)).trans (if_neg (by decide))
        rw [er]
        exact ⟨⟨rfl, s13.1, _, _, _, O3⟩, W3, _, _, _, _, M3⟩
      · refine ks_iconst (x := nI 1) dX7_ask_363 (by decide) rfl ?_
        refine ks_goto (tgt := 388) dX7_ask_364 (by decide) ?_
        refine ks_zret rfl rfl dX7_ask_388 ?_
        have ef : decide (e = 0) = true := decide_eq_true (by omega)
        rw [ef]
        have er : akB op (xs.drop tk) ys (some true) = some (xs.drop tk, ys) := (if_pos (by omega)).trans (if_pos rfl)
        rw [er]
        exact ⟨⟨rfl, s13, u, Nat.le_refl _, by omega, O3⟩, W3, _, _, _, _, M3⟩
    · refine ks_iload_n dX7_ask_351 rfl rfl ?_
      refine ks_sipush (x := nI 175) dX7_ask_352 (by decide) rfl ?_
      refine ks_icmp_neN (tgt := 371) (by omega) (by decide) dX7_ask_355 (by decide) rfl (fun hc355 => ?_) (fun hc355 => ?_)
      · refine ks_aload_n dX7_ask_371 rfl rfl ?_
        refine ks_getf (T := TX7) (kf := 3) kx_646 rfl in_X7 cl_X7 (by decide) M3 rfl dX7_ask_372 rfl ?_
        refine ks_iload dX7_ask_375 rfl rfl ?_
        refine ks_if_neN (tgt := 384) (by omega) dX7_ask_377 (by decide) rfl (fun hc377 => ?_) (fun hc377 => ?_)
        · refine ks_iconst (x := nI 0) dX7_ask_384 (by decide) rfl ?_
          refine ks_ti (y := ks_bo false) rfl ?_
          refine ks_callV (n := 1) (M' := mX8_addFlag) (c_st_addFlag (d := d + 2) (b := false) O3 (by rw [List.length_drop]; omega) (by omega)) O3.ob cl_X8 rfl kx_1643 kx_1644 kx_1645 kx_25 kx_1646 (by decide +kernel) rfl (by decide) (Nat.le_of_ble_eq_true rfl) rfl dX7_ask_385 rfl (fun z4 T4 y4 => ?_)
          obtain ⟨rfl, u4, O4⟩ := y4
          refine ks_zret rfl (ks_bo_z _) dX7_ask_388 ?_
          have ef : decide (e = 0) = false := decide_eq_false (by omega)
          rw [ef]
          have er : akB op (xs.drop tk) ys (some false) = some (flagL false :: xs.drop tk, ys) := if_neg (by omega)
          rw [er]
          exact ⟨⟨rfl, s13.trans (u4.v (by decide)) (Nat.le_refl _), _, Nat.le_add_right _ _, Nat.add_le_add_left (flagL_len _) _, O4⟩, W3.up u4.1 (by decide), _, _, _, _, u4.1.at M3 (by decide)⟩
        · refine ks_iconst (x := nI 1) dX7_ask_380 (by decide) rfl ?_
          refine ks_goto (tgt := 385) dX7_ask_381 (by decide) ?_
          refine ks_ti (y := ks_bo true) rfl ?_
          refine ks_callV (n := 1) (M' := mX8_addFlag) (c_st_addFlag (d := d + 2) (b := true) O3 (by rw [List.length_drop]; omega) (by omega)) O3.ob cl_X8 rfl kx_1643 kx_1644 kx_1645 kx_25 kx_1646 (by decide +kernel) rfl (by decide) (Nat.le_of_ble_eq_true rfl) rfl dX7_ask_385 rfl (fun z4 T4 y4 => ?_)
          obtain ⟨rfl, u4, O4⟩ := y4
          refine ks_zret rfl (ks_bo_z _) dX7_ask_388 ?_
          have ef : decide (e = 0) = true := decide_eq_true (by omega)
          rw [ef]
          have er : akB op (xs.drop tk) ys (some true) = some (flagL true :: xs.drop tk, ys) := if_neg (by omega)
          rw [er]
          exact ⟨⟨rfl, s13.trans (u4.v (by decide)) (Nat.le_refl _), _, Nat.le_add_right _ _, Nat.add_le_add_left (flagL_len _) _, O4⟩, W3.up u4.1 (by decide), _, _, _, _, u4.1.at M3 (by decide)⟩
      · refine ks_iload dX7_ask_358 rfl rfl ?_
        refine ks_if_neN (tgt := 367) (by omega) dX7_ask_360 (by decide) rfl (fun hc360 => ?_) (fun hc360 => ?_)
        · refine ks_iconst (x := nI 0) dX7_ask_367 (by decide) rfl ?_
          refine ks_goto (tgt := 388) dX7_ask_368 (by decide) ?_
          refine ks_zret rfl rfl dX7_ask_388 ?_
          have ef : decide (e = 0) = false := decide_eq_false (by omega)
          rw [ef]
          have er : akB op (xs.drop tk) ys (some false) = none := (if_pos (by omega)).trans (if_neg (by decide))
          rw [er]
          exact ⟨⟨rfl, s13.1, _, _, _, O3⟩, W3, _, _, _, _, M3⟩
        · refine ks_iconst (x := nI 1) dX7_ask_363 (by decide) rfl ?_
          refine ks_goto (tgt := 388) dX7_ask_364 (by decide) ?_
          refine ks_zret rfl rfl dX7_ask_388 ?_
          have ef : decide (e = 0) = true := decide_eq_true (by omega)
          rw [ef]
          have er : akB op (xs.drop tk) ys (some true) = some (xs.drop tk, ys) := (if_pos (by omega)).trans (if_pos rfl)
          rw [er]
          exact ⟨⟨rfl, s13, u, Nat.le_refl _, by omega, O3⟩, W3, _, _, _, _, M3⟩
  · rw [List.drop_zero, List.drop_zero] at h2
    rw [h2]
    obtain ⟨v2, c2, H2, ⟨g2, kg2, w2⟩, o2, B2⟩ := I2
    exact ⟨⟨rfl, (u1.mono (by decide)).trans (v2.mono (by decide)), xs, ys, u, O1.up v2 (by decide)⟩, ⟨c2, H2, ⟨g2, kg2, w2⟩, ⟨o2, B2⟩, _, B1.up v2 (by decide) (by decide)⟩, _, _, _, _, v2.at M1 (by decide)⟩
set_option maxRecDepth 100000 in
set_option maxHeartbeats 800000 in
theorem c_mc_ask {l : Launch} {G : ks_G} {d : Nat} {S : ks_S} {inp cy pa pe pb ops opn cl op : Nat} {kT kC sT sC : Int32} {xs ys : List (List Nat)} {u : Nat} {y9 N9 L9 b9 k9 p9 m9 u9 e9 : Nat} {g9 : Nat → Nat} (hma : mathOK) (hM : S.2.2 27 = some (mcO inp cy pa pe pb ops opn cl kT kC sT sC)) (hO : st_ok S xs ys u) (hW : mcW S) (hV : tv_ok S y9 g9 L9 b9 k9 p9 m9 u9 e9) (hy9 : S.2.2 y9 = some (kB N9 g9)) (hg9 : kO g9) (hL9 : L9 ≤ N9) (hN9 : N9 < 2 ^ 18) (hi9 : inp < k9) (he9 : e9 ≤ u9 + 4000) (hyn : 56 ≤ y9) (hK : ks_stOK S)  {Nc : Nat} {gc : Nat → Nat} (hcy : S.2.2 cy = some (kB Nc gc)) (hgc : kO gc) (hNc : Nc < 2 ^ 20) (hbe : pb ≤ pe) (hpe : pe ≤ Nc) (h16 : pe - pb ≤ 1600) (hcn : cy ∉ ([38, 37] : List Nat)) (hcy27 : cy ≠ 27) (hl : xs.length ≤ 1000) (hu1 : u + 1 ≤ 24096) (hop1 : 172 ≤ op) (hop2 : op ≤ 175) (hops : ops ≤ 201) : ks_P l G yX7_ask mX7_ask (d + 5) [.ref 27, .int (nI op)] S (fun z S' => mcR LAs S u 1 (akS (fun code k s => ecG k s (sgH g9 L9 b9 k9 p9 m9 u9 e9 inp (s.getD (s.length - 1) 0) code)) op xs ys ops (bytL gc pb (pe - pb))) z S' ∧ mcW S' ∧ ∃ o2 i1 i2 i3 i4, S'.2.2 27 = some (mcO inp cy pa pe pb o2 opn cl i1 i2 i3 i4) ∧ ((akS (fun code k s => ecG k s (sgH g9 L9 b9 k9 p9 m9 u9 e9 inp (s.getD (s.length - 1) 0) code)) op xs ys ops (bytL gc pb (pe - pb))).isSome = true → o2 = akO op xs ops)) := by
  have bd := hO.bd
  refine ks_of (by decide) rfl rfl (Nat.le_of_ble_eq_true rfl) ?_
  show ks_X l G mX7_ask (d + 5) 0 [(0, .ref 27), (1, .int (nI op))] [] S _
  refine ks_iload_n dX7_ask_0 rfl rfl ?_
  refine ks_sipush (x := nI 174) dX7_ask_1 (by decide) rfl ?_
  refine ks_icmp_geN (tgt := 14) (by omega) (by decide) dX7_ask_4 (by decide) rfl (fun h1 => ?_) (fun h1 => ?_)
  · refine ks_aload_n dX7_ask_14 rfl rfl ?_
    refine ks_callV (n := 0) (M' := mX7_gatherMany) (c_mc_gatherMany (d := d + 3) hM hO hops) hM cl_X7 rfl kx_1592 kx_1594 kxp_39 kx_24 kx_1595 (by decide +kernel) rfl (by decide) (Nat.le_of_ble_eq_true rfl) rfl dX7_ask_15 rfl (fun z1 T1 y1 => ?_)
    obtain ⟨u1, y2⟩ := y1
    cases hgm : gmS xs ops with
    | none =>
      rw [hgm] at y2
      obtain ⟨rfl, o2, i1, i2, i3, i4, M1⟩ := y2
      refine ks_istore_n dX7_ask_18 (by decide) rfl ?_
      refine ks_sub [(2, _), (0, _), (1, _)] rfl ?_
      refine ks_iload_n dX7_ask_19 rfl rfl ?_
      refine ks_if_ge (tgt := 25) dX7_ask_20 (by decide) rfl (fun h2 => ?_) (fun h2 => ?_)
      · exact absurd h2 (by decide)
      · refine ks_iconst (x := nI 0) dX7_ask_23 (by decide) rfl ?_
        refine ks_zret rfl rfl dX7_ask_24 ?_
        have eS : akS (fun code k s => ecG k s (sgH g9 L9 b9 k9 p9 m9 u9 e9 inp (s.getD (s.length - 1) 0) code)) op xs ys ops (bytL gc pb (pe - pb)) = none := by unfold akS; rw [if_neg (by omega), hgm]
        rw [eS]
        exact ⟨⟨rfl, u1.mono (by decide), xs, ys, u, hO.up u1 (by decide)⟩, hW.up u1 (by decide), _, _, _, _, _, M1, fun h => by cases h⟩
    | some q =>
      rw [hgm] at y2
      obtain ⟨rfl, M1⟩ := y2
      obtain ⟨gm1, gm2, gm3⟩ := gmS_b hgm
      refine ks_istore_n dX7_ask_18 (by decide) rfl ?_
      refine ks_sub [(2, _), (0, _), (1, _)] rfl ?_
      refine ks_iload_n dX7_ask_19 rfl rfl ?_
      refine ks_if_geN (tgt := 25) (by omega) dX7_ask_20 (by decide) ?_
      have eS : akS (fun code k s => ecG k s (sgH g9 L9 b9 k9 p9 m9 u9 e9 inp (s.getD (s.length - 1) 0) code)) op xs ys ops (bytL gc pb (pe - pb)) = akB op (xs.drop (q.1 + q.2 + 3)) ys (askS ((fun code k s => ecG k s (sgH g9 L9 b9 k9 p9 m9 u9 e9 inp (s.getD (s.length - 1) 0) code)) (cln_ ((xs.drop (q.1 + 2)).take q.2) (bytL gc pb (pe - pb)))) ((xs.drop 1).take q.1) ((xs.drop (q.1 + 2)).take q.2)) := by unfold akS; rw [if_neg (by omega), hgm]
      refine ks_sub [(0, _), (1, _), (2, _)] rfl ?_
      refine ks_X.mono (l_akTail (k0 := 1) (s0 := q.1 + 2) (S := T1) hma M1 (hO.up u1 (by decide)) (hW.up u1 (by decide)) (hV.up u1 (by decide)) (u1.at hy9 (by simp only [List.mem_cons, List.not_mem_nil, or_false, not_or]; omega)) hg9 hL9 hN9 hi9 he9 hyn (u1.st hK (by unfold ks_B; decide)) (by omega) (by omega) (by omega) (by omega) (by omega) (by omega) (by omega) (u1.at hcy (by intro h; rw [List.mem_singleton] at h; exact hcy27 h)) hgc hNc hbe hpe h16 hcn hcy27 hl hu1) (fun z S' h => ?_)
      obtain ⟨h2, h3, i1, i2, i3, i4, h4⟩ := h
      refine ⟨?_, h3, _, i1, i2, i3, i4, h4, fun _ => by unfold akO; rw [if_neg (by omega), hgm]⟩
      rw [eS]
      exact mcR.pre u1 (by decide) h2
  · refine ks_aload_n dX7_ask_7 rfl rfl ?_
    refine ks_callV (n := 0) (M' := mX7_gatherOne) (c_mc_gatherOne (d := d + 4) hM hO) hM cl_X7 rfl kx_1588 kx_1590 kxp_38 kx_24 kx_1591 (by decide +kernel) rfl (by decide) (Nat.le_of_ble_eq_true rfl) rfl dX7_ask_8 rfl (fun z1 T1 y1 => ?_)
    obtain ⟨u1, ⟨hx, rfl, o2, i1, i2, i3, i4, M1⟩ | ⟨hx, rfl, M1⟩⟩ := y1
    · refine ks_goto (tgt := 18) dX7_ask_11 (by decide) ?_
      refine ks_istore_n dX7_ask_18 (by decide) rfl ?_
      refine ks_sub [(2, _), (0, _), (1, _)] rfl ?_
      refine ks_iload_n dX7_ask_19 rfl rfl ?_
      refine ks_if_ge (tgt := 25) dX7_ask_20 (by decide) rfl (fun h2 => ?_) (fun h2 => ?_)
      · exact absurd h2 (by decide)
      · refine ks_iconst (x := nI 0) dX7_ask_23 (by decide) rfl ?_
        refine ks_zret rfl rfl dX7_ask_24 ?_
        have eS : akS (fun code k s => ecG k s (sgH g9 L9 b9 k9 p9 m9 u9 e9 inp (s.getD (s.length - 1) 0) code)) op xs ys ops (bytL gc pb (pe - pb)) = none := (if_pos (by omega)).trans (if_pos hx)
        rw [eS]
        exact ⟨⟨rfl, u1.mono (by decide), xs, ys, u, hO.up u1 (by decide)⟩, hW.up u1 (by decide), _, _, _, _, _, M1, fun h => by cases h⟩
    · refine ks_goto (tgt := 18) dX7_ask_11 (by decide) ?_
      refine ks_istore_n dX7_ask_18 (by decide) rfl ?_
      refine ks_sub [(2, _), (0, _), (1, _)] rfl ?_
      refine ks_iload_n dX7_ask_19 rfl rfl ?_
      refine ks_if_geN (tgt := 25) (by decide) dX7_ask_20 (by decide) ?_
      have eS : akS (fun code k s => ecG k s (sgH g9 L9 b9 k9 p9 m9 u9 e9 inp (s.getD (s.length - 1) 0) code)) op xs ys ops (bytL gc pb (pe - pb)) = akB op (xs.drop 2) ys (askS ((fun code k s => ecG k s (sgH g9 L9 b9 k9 p9 m9 u9 e9 inp (s.getD (s.length - 1) 0) code)) (cln_ ((xs.drop 1).take 1) (bytL gc pb (pe - pb)))) ((xs.drop 0).take 1) ((xs.drop 1).take 1)) := (if_pos (by omega)).trans (if_neg (by omega))
      rw [show xs.length - 2 = xs.length - 1 - 1 by omega] at M1
      refine ks_sub [(0, _), (1, _), (2, _)] rfl ?_
      refine ks_X.mono (l_akTail (k0 := 0) (s0 := 1) (S := T1) hma M1 (hO.up u1 (by decide)) (hW.up u1 (by decide)) (hV.up u1 (by decide)) (u1.at hy9 (by simp only [List.mem_cons, List.not_mem_nil, or_false, not_or]; omega)) hg9 hL9 hN9 hi9 he9 hyn (u1.st hK (by unfold ks_B; decide)) (by omega) (by omega) (by omega) (by omega) (by omega) (by omega) (by omega) (u1.at hcy (by intro h; rw [List.mem_singleton] at h; exact hcy27 h)) hgc hNc hbe hpe h16 hcn hcy27 hl hu1) (fun z S' h => ?_)
      obtain ⟨h2, h3, i1, i2, i3, i4, h4⟩ := h
      refine ⟨?_, h3, _, i1, i2, i3, i4, h4, fun _ => (if_pos (by omega)).symm⟩
      rw [eS]
      exact mcR.pre u1 (by decide) h2

/-! THE REFERENCE: whether a signature is good -/
/-- a key by its length, its first byte and its two numbers -/
def rykV (n a b c : Nat) : Bool := decide (b < pP) && (if n = 33 ∧ (a = 2 ∨ a = 3) then decide (mM (rtM (ky3 b)) (rtM (ky3 b)) = ky3 b) else decide (n = 65 ∧ a = 4 ∧ c < pP ∧ ky3 b = mM c c))
def rykU (n a b c : Nat) : Nat := if n = 33 ∧ (a = 2 ∨ a = 3) then (if rtM (ky3 b) % 2 = a - 2 then rtM (ky3 b) else sM 0 (rtM (ky3 b))) else c
theorem rykF_V (g : Nat → Nat) (n : Nat) : rykF g n = rykV n (g 0) (beN g 1) (beN g 33) ∧ rykY g n = rykU n (g 0) (beN g 1) (beN g 33) := by
  unfold rykF rykV rykY rykU rykS
  exact ⟨rfl, rfl⟩
theorem rykV_33 (a b c c' : Nat) : rykV 33 a b c = rykV 33 a b c' ∧ (rykV 33 a b c = true → rykU 33 a b c = rykU 33 a b c') := by
  unfold rykV rykU
  by_cases hs : (33 : Nat) = 33 ∧ (a = 2 ∨ a = 3)
  · rw [if_pos hs, if_pos hs, if_pos hs, if_pos hs]
    exact ⟨rfl, fun _ => rfl⟩
  · rw [if_neg hs, if_neg hs, if_neg hs, if_neg hs]
    have f : ∀ c, ¬ ((33 : Nat) = 65 ∧ a = 4 ∧ c < pP ∧ ky3 b = mM c c) := fun c h => absurd h.1 (by decide)
    rw [decide_eq_false (f c), decide_eq_false (f c'), Bool.and_false]
    exact ⟨rfl, fun h => by cases h⟩
theorem rykV_no {n : Nat} (h33 : n ≠ 33) (h65 : n ≠ 65) (a b c : Nat) : rykV n a b c = false := by
  unfold rykV
  rw [if_neg (fun h => h33 h.1), decide_eq_false (p := n = 65 ∧ a = 4 ∧ c < pP ∧ ky3 b = mM c c) (fun h => h65 h.1), Bool.and_false]
theorem rykF_L {g : Nat → Nat} {n : Nat} : rykF g n = rykF (Fl (bytL g 0 n)) n ∧ (rykF g n = true → rykY g n = rykY (Fl (bytL g 0 n)) n ∧ beN g 1 = beN (Fl (bytL g 0 n)) 1) := by
  have at0 : ∀ j, j < n → Fl (bytL g 0 n) j = g j := fun j hj => by rw [Fl_at g 0 n hj, Nat.zero_add]
  rw [(rykF_V g n).1, (rykF_V g n).2, (rykF_V (Fl (bytL g 0 n)) n).1, (rykF_V (Fl (bytL g 0 n)) n).2]
  by_cases h33 : n = 33
  · subst h33
    have e0 := at0 0 (by decide)
    have e1 : beN g 1 = beN (Fl (bytL g 0 33)) 1 := beN_c (fun k hk => (at0 (1 + k) (by omega)).symm)
    rw [e0, ← e1]
    obtain ⟨q1, q2⟩ := rykV_33 (g 0) (beN g 1) (beN g 33) (beN (Fl (bytL g 0 33)) 33)
    exact ⟨q1, fun h => ⟨q2 h, rfl⟩⟩
  · by_cases h65 : n = 65
    · subst h65
      have e0 := at0 0 (by decide)
      have e1 : beN g 1 = beN (Fl (bytL g 0 65)) 1 := beN_c (fun k hk => (at0 (1 + k) (by omega)).symm)
      have e2 : beN g 33 = beN (Fl (bytL g 0 65)) 33 := beN_c (fun k hk => (at0 (33 + k) (by omega)).symm)
      rw [e0, ← e1, ← e2]
      exact ⟨rfl, fun _ => ⟨rfl, rfl⟩⟩
    · rw [rykV_no h33 h65, rykV_no h33 h65]
      exact ⟨rfl, fun h => by cases h⟩
/-- a signature is good, as the reference sees it: lists of bytes -/
def ecF (Gp : Pt) (k s h : List Nat) : Bool := rfR Gp (Fl s) s.length (Fl k) k.length (beN (Fl h) 0)
theorem rfR_L {Gp : Pt} {gs gk gm : Nat → Nat} {n q : Nat} {h : List Nat} (hD : sgF gs 0 n = true) (hm : bytL gm 0 32 = h) : rfR Gp gs n gk q (beN gm 0) = ecF Gp (bytL gk 0 q) (bytL gs 0 n) h := by
  unfold ecF rfR
  rw [bytL_len, bytL_len, ← beN_L hm, ← sgr_L hD, ← sgs_L hD]
  obtain ⟨k1, k2⟩ := rykF_L (g := gk) (n := q)
  rw [← k1]
  cases hk : rykF gk q with
  | false => rw [Bool.false_and, Bool.false_and]
  | true =>
    obtain ⟨k3, k4⟩ := k2 hk
    rw [← k3, ← k4]
/-- a push of more than 255 bytes is never taken out -/
theorem fl_big {s : List Nat} (hs : 255 < s.length) : ∀ (n : Nat) (c : List Nat), c.length ≤ n → (∀ b ∈ c, b < 256) → fl_ (fun o x => isSg o x s) c = c
  | 0, c, hc, _ => by
    have c0 : c = [] := List.length_eq_zero_iff.mp (by omega)
    subst c0
    rfl
  | n + 1, c, hc, hb => by
    cases ha : afL c with
    | none => rw [fl_n ha]
    | some k =>
      have hk := afL_b ha
      have nf : isSg (c.headD 0) ((c.take k).drop (hdS (c.headD 0))) s = false := isSg_big hs (fun h76 => by
        rw [h76, List.length_drop, List.length_take]
        show min k c.length - 2 ≤ 255
        match c, ha, hb, h76 with
        | op :: r, ha, hb, h76 =>
          have h76 : op = 76 := h76
          subst h76
          simp only [afL] at ha
          have e76 : hdS 76 = 2 := rfl
          rw [e76] at ha
          obtain ⟨z, ez⟩ : ∃ z, z = if 76 < 76 then 76 else leV (r.take (2 - 1)) := ⟨_, rfl⟩
          rw [← ez] at ha
          rw [if_neg (by decide)] at ez
          have zb : z ≤ 255 := by
            rw [ez]
            match r, hb with
            | [], _ => exact Nat.zero_le _
            | x :: t, hb =>
              have := hb x (List.mem_cons_of_mem _ List.mem_cons_self)
              show x + 256 * 0 ≤ 255
              omega
          by_cases c1 : r.length < 2 - 1
          · rw [if_pos c1] at ha; cases ha
          · rw [if_neg c1] at ha
            by_cases c2 : r.length - (2 - 1) < z
            · rw [if_pos c2] at ha; cases ha
            · rw [if_neg c2] at ha
              have e := Option.some.inj ha
              omega)
      rw [fl_s ha, if_neg (by rw [nf]; decide), fl_big hs n (c.drop k) (by rw [List.length_drop]; omega) (fun b h => hb b (List.mem_of_mem_drop h)), List.take_append_drop]
theorem ctX.b {S : ks_S} {V : Nat → Value} {c : List Nat} (h : ctX S V c) : ∀ b ∈ c, b < 256 := by
  obtain ⟨a, b, ga, gb, h1, h2, h3, h4, h5, h6, h7, h8, h9, h10⟩ := h
  rw [h10]
  exact bytL_b h5 _ _
theorem ctK.rf {S : ks_S} {V : Nat → Value} (h : S.2.2 290 = some (rfE V)) : ctK S S V V := ⟨ks_up.rf _ _, h, fun _ _ _ _ _ => rfl⟩
set_option maxRecDepth 100000 in
set_option maxHeartbeats 800000 in
theorem c_md_withoutA {l : Launch} {G : ks_G} {d : Nat} {S : ks_S} {V : Nat → Value} {c : List Nat} {y N n : Nat} {gy : Nat → Nat} (hO : S.2.2 290 = some (rfE V)) (hC : ctX S V c) (hy : S.2.2 y = some (kB N gy)) (ky : kO gy) (hn : n ≤ N) (hN : N < 2 ^ 28) (hy9 : N ≠ 1700) : ks_P l G yX16_without mX16_without (d + 2) [.ref 290, .ref y, .int (nI n)] S (fun z S' => z = none ∧ ∃ V', ctK S S' V V' ∧ ctX S' V' (fl_ (fun o x => isSg o x (bytL gy 0 n)) c)) := by
  by_cases hn9 : n ≤ 255
  · exact c_md_without hO hC hy ky hn hN hy9 hn9
  rw [fl_big (s := bytL gy 0 n) (by rw [bytL_len]; omega) c.length c (Nat.le_refl _) hC.b]
  refine ks_of (by decide) rfl rfl (Nat.le_of_ble_eq_true rfl) ?_
  show ks_X l G mX16_without (d + 2) 0 [(0, .ref 290), (1, .ref y), (2, .int (nI n))] [] S _
  refine ks_iload_n dX16_without_0 rfl rfl ?_
  refine ks_sipush (x := nI 255) dX16_without_1 (by decide) rfl ?_
  refine ks_icmp_leN (tgt := 8) (by omega) (by decide) dX16_without_4 (by decide) rfl (fun h1 => absurd h1 (by omega)) (fun h1 => ?_)
  refine ks_ret rfl dX16_without_7 ?_
  exact ⟨rfl, V, ctK.rf hO, hC⟩
set_option maxRecDepth 100000 in
set_option maxHeartbeats 800000 in
theorem c_md_readKey0 {l : Launch} {G : ks_G} {d : Nat} {S : ks_S} {y : Nat} : ks_P l G yX16_readKey mX16_readKey d [.ref 290, .ref y, .int (nI 0)] S (fun z S' => z = some (.int (ks_bo false)) ∧ S' = S) := by
  refine ks_of (by decide) rfl rfl (Nat.le_of_ble_eq_true rfl) ?_
  show ks_X l G mX16_readKey d 0 [(0, .ref 290), (1, .ref y), (2, .int (nI 0))] [] S _
  refine ks_iload_n dX16_readKey_0 rfl rfl ?_
  refine ks_bipush (x := nI 33) dX16_readKey_1 (by decide) rfl ?_
  refine ks_icmp_neN (tgt := 24) (by decide) (by decide) dX16_readKey_3 (by decide) rfl (fun _ => ?_) (fun h => absurd h (by decide))
  refine ks_iconst (x := nI 0) dX16_readKey_24 (by decide) rfl ?_
  refine ks_istore_n dX16_readKey_25 (by decide) rfl ?_
  refine ks_sub [(3, _), (0, _), (1, _), (2, _)] rfl ?_
  refine ks_iload_n dX16_readKey_26 rfl rfl ?_
  refine ks_if_neN (tgt := 45) (by decide) dX16_readKey_27 (by decide) rfl (fun h => absurd h (by decide)) (fun _ => ?_)
  refine ks_iload_n dX16_readKey_30 rfl rfl ?_
  refine ks_bipush (x := nI 65) dX16_readKey_31 (by decide) rfl ?_
  refine ks_icmp_neN (tgt := 43) (by decide) (by decide) dX16_readKey_33 (by decide) rfl (fun _ => ?_) (fun h => absurd h (by decide))
  refine ks_iconst (x := nI 0) dX16_readKey_43 (by decide) rfl ?_
  refine ks_zret rfl rfl dX16_readKey_44 ?_
  exact ⟨rfl, rfl⟩
set_option maxRecDepth 100000 in
set_option maxHeartbeats 800000 in
theorem c_md_isRight0 {l : Launch} {G : ks_G} {d : Nat} {S : ks_S} {V : Nat → Value} {ys Ns ns yk : Nat} {gs : Nat → Nat} (hO : S.2.2 290 = some (rfE V)) (hys : S.2.2 ys = some (kB Ns gs)) (kgs : kO gs) (hNs : Ns < 2 ^ 28) (hns : ns ≤ Ns) (hD : sgF gs 0 ns = true) : ks_P l G yX16_isRight mX16_isRight (d + 1) [.ref 290, .ref ys, .ref yk, .int (nI 0)] S (fun z S' => z = some (.int (ks_bo false)) ∧ S' = S) := by
  have hb := sgF_b hD
  rw [Nat.zero_add] at hb
  have g3 := kgs 3
  refine ks_of (by decide) rfl rfl (Nat.le_of_ble_eq_true rfl) ?_
  show ks_X l G mX16_isRight (d + 1) 0 [(0, .ref 290), (1, .ref ys), (2, .ref yk), (3, .int (nI 0))] [] S _
  refine ks_aload_n dX16_isRight_0 rfl rfl ?_
  refine ks_iconst (x := nI 3) dX16_isRight_1 (by decide) rfl ?_
  refine ks_baldB (i := 3) hys rfl (by omega) (by omega) dX16_isRight_2 rfl ?_
  refine ks_sipush (x := nI 255) dX16_isRight_3 (by decide) rfl ?_
  refine ks_andB (kgs _) dX16_isRight_6 rfl ?_
  have hy6 : gs 3 < 256 := (kgs _)
  refine ks_istore dX16_isRight_7 (by decide) rfl ?_
  refine ks_sub [(4, _), (0, _), (1, _), (2, _), (3, _)] rfl ?_
  refine ks_aload_n dX16_isRight_9 rfl rfl ?_
  refine ks_iconst (x := nI 5) dX16_isRight_10 (by decide) rfl ?_
  refine ks_iload dX16_isRight_11 rfl rfl ?_
  refine ks_addN dX16_isRight_13 rfl ?_
  refine ks_baldB (i := 5 + (gs 3)) hys rfl (by omega) (by omega) dX16_isRight_14 rfl ?_
  refine ks_sipush (x := nI 255) dX16_isRight_15 (by decide) rfl ?_
  refine ks_andB (kgs _) dX16_isRight_18 rfl ?_
  have hy18 : gs (5 + (gs 3)) < 256 := (kgs _)
  refine ks_istore dX16_isRight_19 (by decide) rfl ?_
  refine ks_sub [(5, _), (0, _), (1, _), (2, _), (3, _), (4, _)] rfl ?_
  refine ks_aload_n dX16_isRight_21 rfl rfl ?_
  refine ks_aload_n dX16_isRight_22 rfl rfl ?_
  refine ks_iload_n dX16_isRight_23 rfl rfl ?_
  refine ks_callV (n := 2) (M' := mX16_readKey) (c_md_readKey0 (d := d)) hO cl_X16 rfl kx_2281 kx_2283 kxp_113 kx_30 kx_2284 (by decide +kernel) rfl (by decide) (Nat.le_of_ble_eq_true rfl) rfl dX16_isRight_24 rfl (fun z1 S1 y1 => ?_)
  obtain ⟨rfl, hT⟩ := y1
  obtain rfl := hT.symm
  refine ks_if_eqZ (tgt := 64) dX16_isRight_27 (by decide) rfl (fun h1 => ?_) (fun h1 => ?_)
  · refine ks_iconst (x := nI 0) dX16_isRight_64 (by decide) rfl ?_
    refine ks_zret rfl rfl dX16_isRight_65 ?_
    exact ⟨rfl, rfl⟩
  · exact absurd h1 (by decide)
abbrev LGd : List Nat := [290, 291, 292, 293, 299, 305, 336, 371, 372, 373, 552, 553, 554, 560, 561, 562, 312, 313, 314, 316, 317, 318, 320, 321, 322, 323, 324, 325, 326, 327, 328, 329, 330, 331, 332, 333, 334, 335]
/-- what looking at signatures leaves -/
def gdK (S S' : ks_S) (V V' : Nat → Value) : Prop := ks_up S S' LGd ∧ S'.2.2 290 = some (rfE V') ∧ ∀ k, k ≠ 40 → k ≠ 41 → k ≠ 63 → k ≠ 74 → k ≠ 87 → k ≠ 88 → k ≠ 89 → k ≠ 91 → V' k = V k
theorem gdK.trans {S S1 S2 : ks_S} {V V1 V2 : Nat → Value} (h : gdK S S1 V V1) (k : gdK S1 S2 V1 V2) : gdK S S2 V V2 := ⟨h.1.trans k.1, k.2.1, fun j a1 a2 a3 a4 a5 a6 a7 a8 => (k.2.2 j a1 a2 a3 a4 a5 a6 a7 a8).trans (h.2.2 j a1 a2 a3 a4 a5 a6 a7 a8)⟩
theorem gdK.rf {S : ks_S} {V : Nat → Value} (h : S.2.2 290 = some (rfE V)) : gdK S S V V := ⟨ks_up.rf _ _, h, fun _ _ _ _ _ _ _ _ _ => rfl⟩
theorem gdK.ct {S S1 : ks_S} {V V1 : Nat → Value} (h : ctK S S1 V V1) : gdK S S1 V V1 := ⟨h.1.mono (by decide), h.2.1, fun j _ _ a3 _ a5 a6 a7 _ => h.2.2 j a3 a5 a6 a7⟩
/-- what looking at signatures needs; the transaction's places in P, its bytes in y -/
def gdS (S : ks_S) (V : Nat → Value) (Gp : Pt) (P y N : Nat) (G9 : Nat → Nat) (L t b k p m u e inp : Nat) : Prop := ptQ S P y N G9 L t b k p m u e ∧ (V 76 = .ref P ∧ V 77 = .int (nI t) ∧ V 78 = .int (nI inp)) ∧ (mhR S ∧ ∃ g, kO g ∧ S.2.2 305 = some (kB 32 g)) ∧ (∃ g, kO g ∧ S.2.2 336 = some (kB 32 g)) ∧ (∃ X, buX S V 373 16384 91 X) ∧ (∃ c, ctX S V c) ∧ ccS S Gp
set_option maxRecDepth 100000 in
set_option maxHeartbeats 1600000 in
theorem c_md_isGood {l : Launch} {G : ks_G} {d : Nat} {S : ks_S} {V : Nat → Value} {Gp : Pt} {P y N L t b k p m u e inp : Nat} {G9 : Nat → Nat} (hO : S.2.2 290 = some (rfE V)) (hG : gdS S V Gp P y N G9 L t b k p m u e inp) (hg9 : kO G9) (hD9 : hsD P y ∧ (∀ x ∈ LGd, x ≠ y ∧ (x < P ∨ P + 6 < x))) (hi : inp < k) {ys yk n q : Nat} {gs gk : Nat → Nat} {c : List Nat} (hC : ctX S V c) (hys : S.2.2 ys = some (kB 520 gs)) (kgs : kO gs) (hyk : S.2.2 yk = some (kB 520 gk)) (kgk : kO gk) (hn : n ≤ 520) (hq : q ≤ 520) (hr : 562 < ys ∧ 562 < yk) (hf : ∀ ty, ty < 256 → ¬ (ty % 32 = 3 ∧ m ≤ inp) → (sgL G9 L b k p m u e inp ty (fl_ (fun o _ => decide (o = 171)) c)).length ≤ 16000) : ks_P l G yX16_isGood mX16_isGood (d + 6) [.ref 290, .ref ys, .int (nI n), .ref yk, .int (nI q)] S (fun z S' => ∃ V', gdK S S' V V' ∧ gdS S' V' Gp P y N G9 L t b k p m u e inp ∧ (∃ c', ctX S' V' c') ∧ z = some (.int (ks_bo (decide (n ≠ 0) && (sgF gs 0 n && ecF Gp (bytL gk 0 q) (bytL gs 0 n) (sgH G9 L b k p m u e inp (gs (n - 1)) (fl_ (fun o _ => decide (o = 171)) c)))))) ∧ V' 74 = (if n ≠ 0 ∧ sgF gs 0 n = false then .int (ks_bo true) else V 74)) := by
  obtain ⟨pt, ⟨v76, v77, v78⟩, ⟨hM, g5, k5, h305⟩, ⟨g6, k6, h336⟩, ⟨X0, hB⟩, -, cc⟩ := id hG
  refine ks_of (by decide) rfl rfl (Nat.le_of_ble_eq_true rfl) ?_
  show ks_X l G mX16_isGood (d + 6) 0 [(0, .ref 290), (1, .ref ys), (2, .int (nI n)), (3, .ref yk), (4, .int (nI q))] [] S _
  refine ks_iload_n dX16_isGood_0 rfl rfl ?_
  refine ks_if_neN (tgt := 6) (by omega) dX16_isGood_1 (by decide) rfl (fun h1 => ?_) (fun h1 => ?_)
  · refine ks_aload_n dX16_isGood_6 rfl rfl ?_
    refine ks_aload_n dX16_isGood_7 rfl rfl ?_
    refine ks_iload_n dX16_isGood_8 rfl rfl ?_
    refine ks_callV (n := 2) (M' := mX16_isDer) (c_md_isDer (d := d + 4) hO hys kgs hn (by decide)) hO cl_X16 rfl kx_2249 kx_2251 kxp_106 kx_30 kx_2252 (by decide +kernel) rfl (by decide) (Nat.le_of_ble_eq_true rfl) rfl dX16_isGood_9 rfl (fun z2 S2 y2 => ?_)
    obtain ⟨rfl, hT2⟩ := y2
    obtain rfl := hT2.symm
    refine ks_if_neZ (tgt := 22) dX16_isGood_12 (by decide) rfl (fun h2 => ?_) (fun h2 => ?_)
    · have hb9 := sgF_b h2
      have ty9 := kgs (n - 1)
      refine ks_aload_n dX16_isGood_22 rfl rfl ?_
      refine ks_aload_n dX16_isGood_23 rfl rfl ?_
      refine ks_getf (T := TX16) (kf := 76) kx_2444 rfl in_X16 cl_X16 (by decide) hO rfl dX16_isGood_24 rfl ?_
      refine ks_tv v76 ?_
      refine ks_aload_n dX16_isGood_27 rfl rfl ?_
      refine ks_getf (T := TX16) (kf := 77) kx_2445 rfl in_X16 cl_X16 (by decide) hO rfl dX16_isGood_28 rfl ?_
      refine ks_tv v77 ?_
      refine ks_aload_n dX16_isGood_31 rfl rfl ?_
      refine ks_getf (T := TX16) (kf := 78) kx_2446 rfl in_X16 cl_X16 (by decide) hO rfl dX16_isGood_32 rfl ?_
      refine ks_tv v78 ?_
      refine ks_aload_n dX16_isGood_35 rfl rfl ?_
      refine ks_iload_n dX16_isGood_36 rfl rfl ?_
      refine ks_iconst (x := nI 1) dX16_isGood_37 (by decide) rfl ?_
      refine ks_subN (by omega) dX16_isGood_38 rfl ?_
      refine ks_baldB (i := n - 1) hys rfl (by omega) (by decide) dX16_isGood_39 rfl ?_
      refine ks_sipush (x := nI 255) dX16_isGood_40 (by decide) rfl ?_
      refine ks_andB (kgs _) dX16_isGood_43 rfl ?_
      have hy43 : gs (n - 1) < 256 := (kgs _)
      refine ks_callV (n := 4) (M' := mX16_hashed) (c_pt_hashed (d := d) hO pt hg9 hC hM h305 k5 h336 k6 hB hD9.1 hi ty9 (hf _ ty9)) hO cl_X16 rfl kx_2256 kx_2258 kxp_107 kx_30 kx_2259 (by decide +kernel) rfl (by decide) (Nat.le_of_ble_eq_true rfl) rfl dX16_isGood_44 rfl (fun z3 S3 y3 => ?_)
      obtain ⟨rfl, V3, X3, I3, gm, km, e336, em⟩ := y3
      obtain ⟨hk3, pt3, ct3, ⟨mh3, i53⟩, -, bu3⟩ := id I3
      have o3 := hk3.2.1
      have ys3 := hk3.1.at hys (fun hm => by simp only [List.mem_cons, List.not_mem_nil, or_false] at hm; omega)
      have yk3 := hk3.1.at hyk (fun hm => by simp only [List.mem_cons, List.not_mem_nil, or_false] at hm; omega)
      have cc3 := cc.up hk3.1 (by decide)
      obtain ⟨⟨R, cv3, eR⟩, rg3, f73, ex3⟩ := id cc3
      have hv3 := hk3.2.2
      refine ks_aload_n dX16_isGood_47 rfl rfl ?_
      refine ks_aload_n dX16_isGood_48 rfl rfl ?_
      refine ks_aload_n dX16_isGood_49 rfl rfl ?_
      refine ks_iload dX16_isGood_50 rfl rfl ?_
      by_cases q0 : q = 0
      · subst q0
        refine ks_callV (n := 3) (M' := mX16_isRight) (c_md_isRight0 (d := d + 4) (yk := yk) o3 ys3 kgs (by decide) hn h2) o3 cl_X16 rfl kx_2277 kx_2279 kxp_112 kx_30 kx_2280 (by decide +kernel) rfl (by decide) (Nat.le_of_ble_eq_true rfl) rfl dX16_isGood_52 rfl (fun z4 S4 y4 => ?_)
        obtain ⟨rfl, hT4⟩ := y4
        obtain rfl := hT4.symm
        refine ks_zret rfl (ks_bo_z _) dX16_isGood_55 ?_
        refine ⟨V3, ⟨(hk3.1.mono (by decide)).trans (ks_up.rf _ _), o3, fun j a1 a2 a3 a4 a5 a6 a7 a8 => hv3 j a1 a2 a3 a5 a6 a7 a8⟩, ⟨pt3, ⟨(hv3 _ (by decide) (by decide) (by decide) (by decide) (by decide) (by decide) (by decide)).trans v76, (hv3 _ (by decide) (by decide) (by decide) (by decide) (by decide) (by decide) (by decide)).trans v77, (hv3 _ (by decide) (by decide) (by decide) (by decide) (by decide) (by decide) (by decide)).trans v78⟩, ⟨mh3, i53⟩, ⟨gm, km, e336⟩, ⟨X3, bu3⟩, ⟨_, ct3⟩, cc3⟩, ⟨_, ct3⟩, ?_, ?_⟩
        · rw [decide_eq_true (p := n ≠ 0) h1, Bool.true_and, h2, Bool.true_and]
          rw [← rfR_L h2 em]
          unfold rfR
          rw [(rykF_V gk 0).1.trans (rykV_no (by decide) (by decide) _ _ _), Bool.false_and]
        · rw [if_neg (fun h => by rw [h2] at h; exact absurd h.2 (by decide))]
          exact hv3 _ (by decide) (by decide) (by decide) (by decide) (by decide) (by decide) (by decide)
      · refine ks_callV (n := 3) (M' := mX16_isRight) (c_md_isRight (d := d) o3 cv3 rg3 f73 ex3 e336 km ys3 kgs (by decide) hn h2 yk3 kgk (by decide) hq (by omega) (by omega) (by omega) (by omega) (by omega)) o3 cl_X16 rfl kx_2277 kx_2279 kxp_112 kx_30 kx_2280 (by decide +kernel) rfl (by decide) (Nat.le_of_ble_eq_true rfl) rfl dX16_isGood_52 rfl (fun z4 S4 y4 => ?_)
        obtain ⟨rfl, u4, ⟨R4, cv4, hR4⟩, rg4, ex4⟩ := y4
        have er : ptR R4 308 = Gp := by rw [← eR]; unfold ptR; rw [hR4 _ (by decide), hR4 _ (by decide), hR4 _ (by decide)]
        refine ks_zret rfl (ks_bo_z _) dX16_isGood_55 ?_
        refine ⟨V3, ⟨(hk3.1.mono (by decide)).trans (u4.mono (by decide)), u4.at o3 (by decide), fun j a1 a2 a3 a4 a5 a6 a7 a8 => hv3 j a1 a2 a3 a5 a6 a7 a8⟩, ⟨pt3.up u4 (fun x hx => hD9.2 x ((show ∀ x, x ∈ [552, 553, 554, 560, 561, 562, 312, 313, 314, 316, 317, 318, 320, 321, 322, 323, 324, 325, 326, 327, 328, 329, 330, 331, 332, 333, 334, 335] → x ∈ LGd by decide) x hx)), ⟨(hv3 _ (by decide) (by decide) (by decide) (by decide) (by decide) (by decide) (by decide)).trans v76, (hv3 _ (by decide) (by decide) (by decide) (by decide) (by decide) (by decide) (by decide)).trans v77, (hv3 _ (by decide) (by decide) (by decide) (by decide) (by decide) (by decide) (by decide)).trans v78⟩, ⟨mh3.up u4 (by decide), by obtain ⟨g9, k9, e9⟩ := i53; exact ⟨g9, k9, u4.at e9 (by decide)⟩⟩, ⟨gm, km, u4.at e336 (by decide)⟩, ⟨X3, bu3.up u4 (by decide) rfl⟩, ⟨_, ct3.up u4 (by decide) ⟨rfl, rfl, rfl⟩⟩, ⟨⟨R4, cv4, er⟩, rg4, f73.up u4 (by decide), ex4⟩⟩, ⟨_, ct3.up u4 (by decide) ⟨rfl, rfl, rfl⟩⟩, ?_, ?_⟩
        · rw [decide_eq_true (p := n ≠ 0) h1, Bool.true_and, h2, Bool.true_and]
          rw [eR, ← rfR_L h2 em]
        · rw [if_neg (fun h => by rw [h2] at h; exact absurd h.2 (by decide))]
          exact hv3 _ (by decide) (by decide) (by decide) (by decide) (by decide) (by decide) (by decide)
    · refine ks_aload_n dX16_isGood_15 rfl rfl ?_
      refine ks_iconst (x := nI 1) dX16_isGood_16 (by decide) rfl ?_
      refine ks_putf (T := TX16) (kf := 74) kx_2442 rfl in_X16 tyX16_ok nmX16 cl_X16 (by decide) hO (Nat.le_of_ble_eq_true rfl) rfl rfl rfl rfl dX16_isGood_17 rfl ?_
      refine md_put mdp_74 ?_
      refine ks_iconst (x := nI 0) dX16_isGood_20 (by decide) rfl ?_
      refine ks_zret rfl rfl dX16_isGood_21 ?_
      have u2 : ks_up S (ks_set S 290 (rfE (va_up V 74 (.int (ks_bo true))))) [290] := ks_up_set _ _ (by decide)
      refine ⟨va_up V 74 (.int (ks_bo true)), ⟨u2.mono (by decide), ks_set_same _ _ _, fun j _ _ _ a4 _ _ _ _ => va_up_ne _ _ a4⟩, ⟨pt.up u2 (fun x hx => hD9.2 x (by rw [List.mem_singleton] at hx; rw [hx]; decide)), ⟨(va_up_ne _ _ (by decide)).trans v76, (va_up_ne _ _ (by decide)).trans v77, (va_up_ne _ _ (by decide)).trans v78⟩, ⟨hM.up u2 (by decide), g5, k5, u2.at h305 (by decide)⟩, ⟨g6, k6, u2.at h336 (by decide)⟩, ⟨X0, hB.up u2 (by decide) (va_up_ne _ _ (by decide))⟩, ⟨c, hC.up u2 (by decide) ⟨va_up_ne _ _ (by decide), va_up_ne _ _ (by decide), va_up_ne _ _ (by decide)⟩⟩, cc.up u2 (by decide)⟩, ⟨c, hC.up u2 (by decide) ⟨va_up_ne _ _ (by decide), va_up_ne _ _ (by decide), va_up_ne _ _ (by decide)⟩⟩, ?_, ?_⟩
      · rw [h2, Bool.false_and, Bool.and_false]; rfl
      · rw [if_pos ⟨h1, h2⟩]; exact va_up_self _ _ _
  · refine ks_iconst (x := nI 0) dX16_isGood_4 (by decide) rfl ?_
    refine ks_zret rfl rfl dX16_isGood_5 ?_
    refine ⟨V, gdK.rf hO, hG, ⟨c, hC⟩, ?_, ?_⟩
    · rw [decide_eq_false (p := n ≠ 0) (fun h => h h1)]; rfl
    · rw [if_neg (fun h => h.1 h1)]

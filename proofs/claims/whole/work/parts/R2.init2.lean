/-! THE REFERENCE: its constructor, the first block -/
theorem fs_first {Ds : Nat → dTx} (h : Ds 0 = fsT) (i : Nat) : txP (sNc (fsM Ds) i) 0 = (1, 86, 1, 130, 144) ∧ ks_num (mg (sNc (fsM Ds) i)) 130 8 = 5000000000 := by
  have hl := fsM_len h
  obtain ⟨A, C, h1, h2, h3⟩ := fsM_e h
  have ga : ∀ j, 80 ≤ j → j < 144 → mg (sNc (fsM Ds) i) j = mg (List.replicate 80 0 ++ [1] ++ txL fsT) j := by
    intro j h4 h5
    rw [sNc_at (by omega), if_neg (by omega), if_neg (by omega), h3]
    have e1 : mg (A ++ numL (nI 545259519).toInt64 4 ++ (C ++ [1] ++ txL fsT)) j = ([1] ++ txL fsT).getD (j - 80) 0 := by
      rw [show A ++ numL (nI 545259519).toInt64 4 ++ (C ++ [1] ++ txL fsT) = (A ++ numL (nI 545259519).toInt64 4 ++ C) ++ ([1] ++ txL fsT) ++ [] by simp [List.append_assoc]]
      exact mg_app _ _ _ (by simp only [List.length_append, numL_len, h1, h2]; omega) (by simp only [List.length_append, List.length_singleton, fsT_len]; omega)
    have e2 : mg (List.replicate 80 0 ++ [1] ++ txL fsT) j = ([1] ++ txL fsT).getD (j - 80) 0 := by
      rw [show List.replicate 80 0 ++ [1] ++ txL fsT = List.replicate 80 0 ++ ([1] ++ txL fsT) ++ [] by simp [List.append_assoc]]
      exact mg_app _ _ _ (by rw [List.length_replicate]; omega) (by simp only [List.length_append, List.length_singleton, fsT_len]; omega)
    rw [e1, e2]
  constructor
  · have e1 : txP (sNc (fsM Ds) i) 0 = (tx_ (mg (sNc (fsM Ds) i)) 81 (sNc (fsM Ds) i).length).getD (0, 0, 0, 0, 0) := rfl
    rw [e1, sNc_len, hl, tx_from (g := mg (List.replicate 80 0 ++ [1] ++ txL fsT)) (fun j h4 h5 => ga j (by omega) h5), fs_tx]
    rfl
  · rw [ks_num_congr (g' := mg (List.replicate 80 0 ++ [1] ++ txL fsT)) 8 130 130 (fun j hj => ga _ (by omega) (by omega))]
    decide +kernel
theorem frS.trans {L : List Nat} {S S1 S2 : ks_S} (h : frS L S S1) (k : frS L S1 S2) : frS L S S2 := fun a e ha hl he => k a e (h a e ha hl he) hl he
theorem frS.mono {L L' : List Nat} {S S1 : ks_S} (h : frS L S S1) (hl : ∀ a, a ∈ L → a ∈ L') : frS L' S S1 := fun a e ha hn he => h a e ha (fun q => hn (hl a q)) he
def rfN : List Nat := List.range' 290 275
theorem mem_rfN {a : Nat} : a ∈ rfN ↔ 290 ≤ a ∧ a < 565 := by unfold rfN; rw [List.mem_range'_1]
theorem rqW.nw {S : ks_S} {V : Nat → Value} {F : Nat} {Gp : Pt} (h : rqW S V F Gp) : nwS S ∧ S.1 + F + 2 < ks_B := by
  obtain ⟨-, ⟨xs, ys, vs, T, sz, oz, vz, h2, h3, -⟩, -⟩ := h
  obtain ⟨⟨-, -, -, a, b⟩, -⟩ := h2
  exact ⟨a, by rw [← h3]; exact b⟩
theorem rqW.seal {S S1 : ks_S} {V V1 : Nat → Value} {F : Nat} {Gp : Pt} {L Fs : List Nat} (h : rqW S V F Gp) (k : pbK L Fs S S1 V V1) (hL : ∀ x ∈ L, x = 531 ∨ x ∈ LAz) (hF : 67 ∉ Fs ∧ 70 ∉ Fs ∧ 73 ∉ Fs ∧ 87 ∉ Fs ∧ 88 ∉ Fs ∧ 89 ∉ Fs ∧ 91 ∉ Fs) (hA : asR S1) (h5 : ∃ e, S1.2.2 531 = some e ∧ ∀ g, e ≠ kB 520 g) : rqW S1 V1 F Gp := by
  have hL' : ∀ x ∈ (290 :: L), x = 290 ∨ x = 531 ∨ x ∈ LAz := fun x hx => by
    rcases List.mem_cons.mp hx with rfl | hx
    · exact Or.inl rfl
    · exact Or.inr (hL x hx)
  have hz : ∀ x, (x = 290 ∨ x = 531 ∨ x ∈ LAz) → (x < 300 ∨ x = 305 ∨ x = 338 ∨ x = 345 ∨ (354 < x ∧ x < 358) ∨ x = 359 ∨ x = 370 ∨ (528 < x ∧ x < 533)) := fun x hx => by
    rcases hx with rfl | rfl | hx
    · omega
    · omega
    · have : ∀ x ∈ LAz, (x < 300 ∨ x = 305 ∨ x = 338 ∨ x = 345 ∨ (354 < x ∧ x < 358) ∨ x = 359 ∨ x = 370 ∨ (528 < x ∧ x < 533)) := by decide
      exact this x hx
  obtain ⟨a1, a2, a3, a4, a5, a6, a7, a8, a9, aA, aB, aC⟩ := id hA
  have hsh : ∀ p ∈ shL, (p.1 = 290 ∨ p.1 = 531 ∨ p.1 ∈ LAz) → shp S1 p := by
    intro p hp hm
    have : ∀ p ∈ shL, (p.1 = 290 ∨ p.1 = 531 ∨ p.1 ∈ LAz) → p = (305, 0, 32) ∨ p = (529, 0, 131072) ∨ p = (530, 0, 384) ∨ p = (355, 0, 416) ∨ p = (356, 0, 64) ∨ p = (357, 0, 32) ∨ p = (338, 3, 8) ∨ p = (345, 1, 10) ∨ p = (532, 3, 8) ∨ p = (370, 0, 32) ∨ p = (359, 3, 8) := by decide
    rcases this p hp hm with rfl | rfl | rfl | rfl | rfl | rfl | rfl | rfl | rfl | rfl | rfl
    · exact a2
    · exact a3
    · exact a4
    · exact a5
    · exact a6
    · exact a7
    · exact a8
    · exact a9
    · exact aA
    · exact aB
    · exact aC
  refine h.upd k.1.fr k.2.1 (h.rs k (fun x hx => by have := hz x (Or.inr (hL x hx)); omega) ⟨hF.1, hF.2.1, hF.2.2.1⟩) (fun x hx hx3 hu => ?_) (Or.inl a1) (Or.inr fun x hx => by have := hz x (hL' x hx); omega) (Or.inr fun x hx => by have := hz x (hL' x hx); omega) (Or.inr ⟨fun hx => by have := hz _ (hL' _ hx); omega, k.2.2 _ hF.2.2.2.2.2.2⟩) (Or.inr ⟨⟨fun hx => by have := hz _ (hL' _ hx); omega, fun hx => by have := hz _ (hL' _ hx); omega⟩, k.2.2 _ hF.2.2.2.1, k.2.2 _ hF.2.2.2.2.1, k.2.2 _ hF.2.2.2.2.2.1⟩) ⟨fun hx => by have := hz _ (hL' _ hx); omega, Or.inr fun hx => by have := hz _ (hL' _ hx); omega⟩ (fun hx => by have := hz _ (hL' _ hx); omega) (Or.inr fun x hx => by have := hz x (hL' x hx); omega) (Or.inr fun x hx => by have := hz x (hL' x hx); omega) (fun p hp hm => hsh p hp (hL' _ hm))
  rcases hL' x hx with rfl | rfl | hm
  · exact ⟨_, k.2.1, fun g he => nomatch he⟩
  · exact h5
  · exfalso
    have : ∀ x ∈ LAz, rqU x = false := by decide
    rw [this x hm] at hu
    cases hu
/-- the reference between calls: n blocks B, the best one, coins C, the trial list R, draft D of t transactions on block q at time dt, tape T, last reason rs -/
def rqS (S : ks_S) (V : Nat → Value) (F n best : Nat) (B : Nat → Bk) (C R : List Nat) (t : Nat) (D : Nat → dTx) (T : List Nat) (q : Nat) (dt : Int64) (rs : Nat) : Prop := rqW S V F gpG ∧ (∃ bf, S.2.2 341 = some (kA 7 61 bf) ∧ ∀ i, n ≤ i → bf i = none) ∧ rbS S n B ∧ (V 47 = .int (nI n) ∧ V 48 = .int (nI best) ∧ best < n) ∧ ((∃ f, S.2.2 342 = some (kN 512 f) ∧ ∀ j, j < C.length → f j = C.getD j 0) ∧ V 50 = .int (nI C.length) ∧ C.length ≤ 400 ∧ ∀ x ∈ C, rmK n B x) ∧ ((∃ f, S.2.2 343 = some (kN 2300 f) ∧ ∀ j, j < R.length → f j = R.getD j 0) ∧ V 52 = .int (nI R.length) ∧ R.length ≤ 2300 ∧ ∀ x ∈ R, rmK n B x) ∧ (rdS S t D ∧ V 94 = .int (nI t)) ∧ buX S V 531 1600 110 T ∧ (V 92 = .int (nI q) ∧ q < n ∧ V 93 = .long dt) ∧ V 55 = .int (nI rs) ∧ 565 ≤ S.1
def fsK (b : Nat) (M : List Nat) : Nat → Bk := va_up (fun _ => (565, [], 0, 0, 0, false, none)) 0 (b, M, 0, 0, 2 ^ 256 / (tg_num 545259519 + 1), false, none)
theorem fs_rcF {M : List Nat} {b : Nat} (h1 : M.length = 144) (h2 : mg M 80 = 1) (h3 : txP M 0 = (1, 86, 1, 130, 144)) (h4 : ks_num (mg M) 130 8 = 5000000000) : vaM M 0 = 5000000000 ∧ rmV (fsK b M) 0 = 5000000000 ∧ (∀ R, radR (fsK b M) 0 0 1 0 R = if plR (fsK b M) 0 (fun j => idB M 0 j) R = 0 then R ++ [0] else R.set (plR (fsK b M) 0 (fun j => idB M 0 j) R - 1) 0) ∧ (∀ ck, rcF gpG ck (fsK b M) M 0 0 1 0 [] 0 = (0, [0])) := by
  have va : vaM M 0 = 5000000000 := by
    unfold vaM
    rw [h3, h1]
    show 0 + ks_num (mg M) 130 8 = _
    rw [h4]
  have ra : ∀ R, radR (fsK b M) 0 0 1 0 R = if plR (fsK b M) 0 (fun j => idB M 0 j) R = 0 then R ++ [0] else R.set (plR (fsK b M) 0 (fun j => idB M 0 j) R - 1) 0 := fun R => rfl
  refine ⟨va, ?_, ra, fun ck => ?_⟩
  · show ks_num (mg M) (oA (mg M) M.length (txP M 0).2.2.2.1 0) 8 = _
    rw [h3]
    exact h4
  · rw [rcF, if_pos rfl, h3, ra, rcF, va]
    rfl
set_option maxRecDepth 100000 in
set_option maxHeartbeats 800000 in
theorem l_i15 {l : Launch} {G : ks_G} {d : Nat} {S : ks_S} {V : Nat → Value} {F : Nat} {D : Nat → dTx} {f2 f3 : Nat → Nat} (h : rqW S V F gpG) (hD : rdS S 1 D) (hD0 : D 0 = fsT) (v94 : V 94 = .int (nI 1)) (v93 : V 93 = .long (lN 1000000)) (v92 : V 92 = .int (nI 0 - 1)) (v47 : V 47 = .int (nI 0)) (v55 : V 55 = .int (nI 0)) (hB : buX S V 531 1600 110 []) (h341 : S.2.2 341 = some (kA 7 61 (fun _ => none))) (h342 : S.2.2 342 = some (kN 512 f2)) (h343 : S.2.2 343 = some (kN 2300 f3)) (hx5 : 565 ≤ S.1) (hr : S.1 + F + 30 < ks_B) {P9 : Option Value → ks_S → Prop} (hk : ∀ (S' : ks_S) (V' : Nat → Value) (F' : Nat) (M : List Nat), M = fsB D → rqS S' V' F' 1 0 (ckB (fsK S.1 M) 0) [0] [0] 0 D [] 0 (lN 1000600) 0 → frS rfN S S' → S'.1 + F' = S.1 + F + 12 → S'.2.1 + 520 * F' = S.2.1 + 520 * F + 2114 → P9 none S') : ks_X l G mX16_init (d + 14) 3224 [(0, .ref 290)] [] S P9 := by
  have hkB : 100000 < ks_B := by unfold ks_B; decide
  have hO := h.1
  refine ks_aload_n dX16_init_3224 rfl rfl ?_
  refine ks_iconst (x := nI 0) dX16_init_3225 (by decide) rfl ?_
  refine ks_callV (n := 1) (M' := mX16_assemble) (c_md_asmZ0 (d := d + 8) hO hD v94 v93 h.as v92) hO cl_X16 rfl kx_1963 kx_1965 kxp_55 kx_30 kx_1966 (by decide +kernel) rfl (by decide) (Nat.le_of_ble_eq_true rfl) rfl dX16_init_3226 rfl (fun z1 S1 y1 => ?_)
  obtain ⟨rfl, V1, p1, A1, B1⟩ := y1
  obtain ⟨M, eM⟩ : ∃ M, M = fsB D := ⟨_, rfl⟩
  change buX S1 V1 529 131072 107 (fsB D) at B1
  rw [← eM] at B1
  have okM : M.length = 144 ∧ mg M 80 = 1 ∧ blk_ (mg M) 144 = true ∧ btB M = 545259519 := by rw [eM]; exact fsB_ok hD0 _
  have fM : txP M 0 = (1, 86, 1, 130, 144) ∧ ks_num (mg M) 130 8 = 5000000000 := by rw [eM]; exact fs_first hD0 _
  obtain ⟨rM1, rM2, rM3, rM4⟩ := fs_rcF (b := S1.1) okM.1 okM.2.1 fM.1 fM.2
  have t1 : buX S1 V1 531 1600 110 [] := p1.bu hB (by decide) (by decide)
  have W1 : rqW S1 V1 F gpG := h.seal p1 (fun x hx => Or.inr hx) (by decide) A1 (by obtain ⟨_, g, e, _⟩ := t1; exact ⟨_, e, no52_ne rfl⟩)
  obtain ⟨v107, g1, e529, k529, -, em⟩ := id B1
  have n1 : S1.1 = S.1 := p1.1.1
  have s1 : S1.2.1 = S.2.1 := p1.1.2.1
  have c341 := p1.1.at h341 (by decide)
  have hR0 : rbS S1 0 (fun _ => (565, [], 0, 0, 0, false, none)) := ⟨⟨_, c341, fun i hi => absurd hi (Nat.not_lt_zero _)⟩, fun i hi => absurd hi (Nat.not_lt_zero _), by decide⟩
  have x47 : V1 47 = .int (nI 0) := (p1.2.2 47 (by decide)).trans v47
  refine ks_aload_n dX16_init_3229 rfl rfl ?_
  refine ks_aload_n dX16_init_3230 rfl rfl ?_
  refine ks_getf (T := TX16) (kf := 106) kx_2474 rfl in_X16 cl_X16 (by decide) p1.2.1 rfl dX16_init_3231 rfl ?_
  refine ks_aload_n dX16_init_3234 rfl rfl ?_
  refine ks_getf (T := TX16) (kf := 107) kx_2475 rfl in_X16 cl_X16 (by decide) p1.2.1 rfl dX16_init_3235 rfl ?_
  refine ks_tv v107 ?_
  refine ks_iconst (x := (-1)) dX16_init_3238 (by decide) rfl ?_
  refine ks_ti (y := nI 0 - 1) (by decide) ?_
  refine ks_callV (n := 3) (M' := mX16_keep) (c_md_keepZ (d := d + 8) (n := 0) (y := 529) (N := 131072) (F := F) (M := M) (g := g1) (B := fun _ => (565, [], 0, 0, 0, false, none)) (bf := fun _ => none) W1.mq W1.nw.1 (by omega) (by omega) c341 hR0 (fun _ _ => rfl) x47 (by decide) e529 k529 (by unfold ks_B; decide) (by rw [okM.1]; decide) (by decide) (fun j hj => bytL_mg em hj) (by rw [okM.1]; exact okM.2.2.1) (W1.s (p := (338, 3, 8)) (by decide)) (W1.s (p := (339, 3, 8)) (by decide)) (W1.s (p := (340, 3, 8)) (by decide)) (W1.s (p := (358, 3, 8)) (by decide)) (by rw [okM.2.2.2]; decide +kernel) (by rw [okM.2.2.2]; decide +kernel)) p1.2.1 cl_X16 rfl kx_2046 kx_2048 kxp_71 kx_30 kx_2049 (by decide +kernel) rfl (by decide) (Nat.le_of_ble_eq_true rfl) rfl dX16_init_3239 rfl (fun z2 S2 y2 => ?_)
  obtain ⟨rfl, V2, ⟨⟨n2, s2, nw2⟩, fr2, ⟨o2, x47, vk2⟩, -, c341, -, w338, w339, w340, w358⟩, mq2, rb2⟩ := y2
  rw [okM.2.2.2] at rb2
  change rbS S2 1 (fsK S1.1 M) at rb2
  have f2 : frS LKp S1 S2 := fun a e h1 h2 _ => fr2 a e h1 h2
  have W2 : rqW S2 V2 F gpG := W1.mqb f2 mq2 (by decide) (by decide) (by decide) (fun p hp hm => by
    have : ∀ p ∈ shL, p.1 ∈ LKp → p.1 = 305 ∨ p = (338, 3, 8) ∨ p = (339, 3, 8) ∨ p = (340, 3, 8) ∨ p = (358, 3, 8) := by decide
    rcases this p hp hm with e | rfl | rfl | rfl | rfl
    · exact Or.inl e
    · exact Or.inr (Or.inr (Or.inr w338))
    · exact Or.inr (Or.inr (Or.inr w339))
    · exact Or.inr (Or.inr (Or.inr w340))
    · exact Or.inr (Or.inr (Or.inr w358)))
  have hbN : bkN (fsK S1.1 M 0) = S1.1 := rfl
  refine ks_aload_n dX16_init_3242 rfl rfl ?_
  refine ks_iconst (x := nI 0) dX16_init_3243 (by decide) rfl ?_
  refine ks_putf (T := TX16) (kf := 48) kx_2416 rfl in_X16 tyX16_ok nmX16 cl_X16 (by decide) o2 (Nat.le_of_ble_eq_true rfl) rfl rfl rfl rfl dX16_init_3244 rfl ?_
  refine md_put mdp_48 ?_
  refine ks_aload_n dX16_init_3247 rfl rfl ?_
  refine ks_iconst (x := nI 0) dX16_init_3248 (by decide) rfl ?_
  refine ks_putf (T := TX16) (kf := 52) kx_2420 rfl in_X16 tyX16_ok nmX16 cl_X16 (by decide) (ks_set_same _ _ _) (Nat.le_of_ble_eq_true rfl) rfl rfl rfl rfl dX16_init_3249 rfl ?_
  refine md_put mdp_52 ?_
  refine ks_aload_n dX16_init_3252 rfl rfl ?_
  refine ks_iconst (x := nI 0) dX16_init_3253 (by decide) rfl ?_
  refine ks_nm (fun T3 e3 => ?_)
  obtain ⟨V3, eV3⟩ : ∃ V3, V3 = va_up (va_up V2 48 (.int (nI 0))) 52 (.int (nI 0)) := ⟨_, rfl⟩
  have o3 : T3.2.2 290 = some (rfE V3) := by rw [e3, eV3]; exact (ks_set_same _ _ _)
  have u3 : ks_up S2 T3 [290] := by rw [e3]; exact (ks_up_set (L := [290]) _ _ (by decide)).trans (ks_up_set _ _ (by decide))
  clear e3
  have p3 : pbK [] [48, 52] S2 T3 V2 V3 := ⟨u3, o3, fun k hk => by
    simp only [List.mem_cons, List.not_mem_nil, or_false, not_or] at hk
    rw [eV3, va_up_ne _ _ hk.2, va_up_ne _ _ hk.1]⟩
  have W3 : rqW T3 V3 F gpG := W2.ob p3 (by decide) (fun x hx => by cases hx) (fun x hx => by cases hx)
  have c343 := u3.at (f2 343 _ (p1.1.at h343 (by decide)) (by decide) (no52_ne rfl)) (by decide)
  have c342 := u3.at (f2 342 _ (p1.1.at h342 (by decide)) (by decide) (no52_ne rfl)) (by decide)
  have rc3 : rcnS T3 V3 F 1 (fsK S1.1 M) gpG [] := ⟨o3, W3.mq, rb2.up u3 (by decide), ⟨_, c343, fun j hj => absurd hj (Nat.not_lt_zero _)⟩, by rw [eV3]; exact va_up_self _ _ _, Nat.zero_le _, fun x hx => by cases hx⟩
  refine ks_callV (n := 1) (M' := mX16_connect) (c_md_connect (d := d) (n := 1) (b := 0) (B := fsK S1.1 M) (Gp := gpG) (R := []) (Q := fun R => ∀ x ∈ R, rmV (fsK S1.1 M) x ≤ 2100000000000000) (fun i j hi hj hij => absurd (show i = j by omega) hij) (by decide) (fun i hi => by
      have : i = 0 := by omega
      subst this
      exact (by decide : (0 : Nat) < 700)) (fun t ht => by
      change t < mg M 80 at ht
      rw [okM.2.1] at ht
      have : t = 0 := by omega
      subst this
      show vaM M 0 ≤ _
      rw [rM1]
      decide) (by show 0 < mg M 80; rw [okM.2.1]; decide) (fun R h => h) (fun R h1 h2 => by
      show ∀ x ∈ radR (fsK S1.1 M) 0 0 (txP M 0).2.2.1 0 R, _
      rw [fM.1]
      intro x hx
      change x ∈ radR (fsK S1.1 M) 0 0 1 0 R at hx
      rw [rM3] at hx
      have hx2 : x ∈ R ∨ x = 0 := by
        split at hx
        · rcases List.mem_append.mp hx with hx | hx
          · exact Or.inl hx
          · exact Or.inr (List.mem_singleton.mp hx)
        · rcases List.mem_or_eq_of_mem_set hx with hx | hx
          · exact Or.inl hx
          · exact Or.inr hx
      rcases hx2 with hx2 | rfl
      · exact h1 x hx2
      · rw [rM2]; decide) (fun t R h1 h2 => by
      exfalso
      change t < mg M 80 at h2
      rw [okM.2.1] at h2
      omega) rc3 (fun x hx => by cases hx) (by decide)) o3 cl_X16 rfl kx_2118 kx_2120 kxp_77 kx_30 kx_2121 (by decide +kernel) rfl (by decide) (Nat.le_of_ble_eq_true rfl) rfl dX16_init_3254 rfl (fun z4 S4 y4 => ?_)
  obtain ⟨rfl, V4, F4, R4, ⟨sf4, vk4⟩, y4⟩ := y4
  have erc : rcF gpG (bkC (fsK S1.1 M 0)).isSome (fsK S1.1 M) (bkM (fsK S1.1 M 0)) 0 (bkH (fsK S1.1 M 0)) (mg (bkM (fsK S1.1 M 0)) 80) 0 [] 0 = (0, [0]) := by
    show rcF gpG _ (fsK S1.1 M) M 0 0 (mg M 80) 0 [] 0 = (0, [0])
    rw [okM.2.1]
    exact rM4 _
  rw [erc] at y4
  rw [erc]
  obtain ⟨eR, rc4⟩ : R4 = [0] ∧ rcnS S4 V4 F4 1 (ckB (fsK S1.1 M) 0) gpG R4 := by
    rcases y4 with ⟨c, _⟩ | ⟨_, c, k⟩
    · exact absurd rfl c
    · exact ⟨c, k⟩
  subst eR
  clear y4 erc
  rw [hbN] at sf4
  have mm : ∀ x ∈ S1.1 :: LCx, 565 ≤ x ∨ x ∈ LCx := fun x hx => by
    rcases List.mem_cons.mp hx with rfl | hx
    · exact Or.inl (by omega)
    · exact Or.inr hx
  have nm : ∀ x, x < 565 → x ∉ LCx → x ∉ S1.1 :: LCx := fun x h1 h2 h3 => by
    rcases mm x h3 with h | h
    · omega
    · exact h2 h
  have W4 : rqW S4 V4 F4 gpG := W3.mqb sf4.2 rc4.2.1 (nm _ (by decide) (by decide)) (fun x hx => by
      rcases mm x hx with h | h
      · omega
      · have : ∀ x ∈ LCx, x < 346 ∨ 353 < x := by decide
        exact this x h) (fun x hx => by
      rcases mm x hx with h | h
      · omega
      · have : ∀ x ∈ LCx, x < 534 ∨ 540 < x := by decide
        exact this x h) (fun p hp hm => by
      have h1 : ∀ p ∈ shL, p.1 < 565 := by decide
      have h2 : ∀ p ∈ shL, p.1 ∈ LCx → p.1 = 305 ∨ p.1 = 336 ∨ p.1 = 370 := by decide
      rcases mm _ hm with h | h
      · have := h1 p hp; omega
      · rcases h2 p hp h with e | e | e
        · exact Or.inl e
        · exact Or.inr (Or.inl e)
        · exact Or.inr (Or.inr (Or.inl e)))
  have c342 := sf4.2 342 _ c342 (nm _ (by decide) (by decide)) (no52_ne rfl)
  refine ks_pop dX16_init_3257 rfl rfl ?_
  refine ks_aload_n dX16_init_3258 rfl rfl ?_
  refine ks_callV (n := 0) (M' := mX16_take) (c_md_take (d := d + 13) rc4 (by decide) c342) W4.1 cl_X16 rfl kx_2363 kx_2365 kxp_126 kx_30 kx_2366 (by decide +kernel) rfl (by decide) (Nat.le_of_ble_eq_true rfl) rfl dX16_init_3259 rfl (fun z5 S5 y5 => ?_)
  obtain ⟨rfl, gC, u5, rc5, e342, hg5⟩ := y5
  have p5 : pbK [342] [50] S4 S5 V4 (va_up V4 50 (.int (nI ([0] : List Nat).length))) := ⟨u5, rc5.1, fun k hk => va_up_ne _ _ (fun e => hk (by rw [e]; decide))⟩
  have W5 : rqW S5 (va_up V4 50 (.int (nI ([0] : List Nat).length))) F4 gpG := W4.ob p5 (by decide) (by decide) (fun x hx => by rw [List.mem_singleton] at hx; rw [hx]; exact ⟨_, e342, no52_ne rfl⟩)
  obtain ⟨V5, eV5⟩ : ∃ V5, V5 = va_up V4 50 (.int (nI ([0] : List Nat).length)) := ⟨_, rfl⟩
  rw [← eV5] at rc5 W5 p5
  refine ks_aload_n dX16_init_3262 rfl rfl ?_
  refine ks_iconst (x := nI 0) dX16_init_3263 (by decide) rfl ?_
  refine ks_putf (T := TX16) (kf := 94) kx_2462 rfl in_X16 tyX16_ok nmX16 cl_X16 (by decide) W5.1 (Nat.le_of_ble_eq_true rfl) rfl rfl rfl rfl dX16_init_3264 rfl ?_
  refine md_put mdp_94 ?_
  refine ks_aload_n dX16_init_3267 rfl rfl ?_
  refine ks_iconst (x := nI 0) dX16_init_3268 (by decide) rfl ?_
  refine ks_putf (T := TX16) (kf := 92) kx_2460 rfl in_X16 tyX16_ok nmX16 cl_X16 (by decide) (ks_set_same _ _ _) (Nat.le_of_ble_eq_true rfl) rfl rfl rfl rfl dX16_init_3269 rfl ?_
  refine md_put mdp_92 ?_
  refine ks_aload_n dX16_init_3272 rfl rfl ?_
  refine ks_ldc2 dX16_init_3273 kx_2367 rfl ?_
  refine ks_tl (y := lN 1000600) rfl ?_
  refine ks_putf (T := TX16) (kf := 93) kx_2461 rfl in_X16 tyX16_ok nmX16 cl_X16 (by decide) (ks_set_same _ _ _) (Nat.le_of_ble_eq_true rfl) rfl rfl rfl rfl dX16_init_3276 rfl ?_
  refine md_put mdp_93 ?_
  refine ks_ret rfl dX16_init_3279 ?_
  obtain ⟨V6, eV6⟩ : ∃ V6, V6 = va_up (va_up (va_up V5 94 (.int (nI 0))) 92 (.int (nI 0))) 93 (.long (lN 1000600)) := ⟨_, rfl⟩
  obtain ⟨T6, e6⟩ : ∃ T6, T6 = ks_set (ks_set (ks_set S5 290 (rfE (va_up V5 94 (.int (nI 0))))) 290 (rfE (va_up (va_up V5 94 (.int (nI 0))) 92 (.int (nI 0))))) 290 (rfE (va_up (va_up (va_up V5 94 (.int (nI 0))) 92 (.int (nI 0))) 93 (.long (lN 1000600)))) := ⟨_, rfl⟩
  rw [← e6]
  have o6 : T6.2.2 290 = some (rfE V6) := by rw [e6, eV6]; exact ks_set_same _ _ _
  have u6 : ks_up S5 T6 [290] := by rw [e6]; exact ((ks_up_set (L := [290]) _ _ (by decide)).trans (ks_up_set _ _ (by decide))).trans (ks_up_set _ _ (by decide))
  clear e6
  have p6 : pbK [] [94, 92, 93] S5 T6 V5 V6 := ⟨u6, o6, fun k hk => by
    simp only [List.mem_cons, List.not_mem_nil, or_false, not_or] at hk
    rw [eV6, va_up_ne _ _ hk.2.2, va_up_ne _ _ hk.2.1, va_up_ne _ _ hk.1]⟩
  have W6 : rqW T6 V6 F4 gpG := W5.ob p6 (by decide) (fun x hx => by cases hx) (fun x hx => by cases hx)
  have vv : ∀ k, k ∉ ([94, 92, 93, 50, 48, 52, 107] : List Nat) → k ∉ LCf → 39 < k → k ≠ 47 → V6 k = V k := fun k h1 h2 h3 h4 => by
    simp only [List.mem_cons, List.not_mem_nil, or_false, not_or] at h1
    rw [p6.2.2 k (by simp only [List.mem_cons, List.not_mem_nil, or_false, not_or]; exact ⟨h1.1, h1.2.1, h1.2.2.1⟩), p5.2.2 k (by rw [List.mem_singleton]; exact h1.2.2.2.1), vk4 k h2, p3.2.2 k (by simp only [List.mem_cons, List.not_mem_nil, or_false, not_or]; exact ⟨h1.2.2.2.2.1, h1.2.2.2.2.2.1⟩), vk2 k (Or.inr ⟨h3, h4⟩), p1.2.2 k (by rw [List.mem_singleton]; exact h1.2.2.2.2.2.2)]
  have v3 : ∀ k, k ∉ ([94, 92, 93, 50] : List Nat) → k ∉ LCf → V6 k = V3 k := fun k h1 h2 => by
    simp only [List.mem_cons, List.not_mem_nil, or_false, not_or] at h1
    rw [p6.2.2 k (by simp only [List.mem_cons, List.not_mem_nil, or_false, not_or]; exact ⟨h1.1, h1.2.1, h1.2.2.1⟩), p5.2.2 k (by rw [List.mem_singleton]; exact h1.2.2.2), vk4 k h2]
  have cx : ∀ a e, S1.2.2 a = some e → a ∉ LKp → a ∉ LCx → a ≠ 342 → a ≠ S1.1 → (∀ g, e ≠ kB 520 g) → T6.2.2 a = some e := fun a e g1 g2 g3 g4 g5 g6 => by
    have a0 : a ≠ 290 := fun h => g2 (by rw [h]; decide)
    exact u6.at (u5.at (sf4.2 a e (u3.at (f2 a e g1 g2 g6) (by rw [List.mem_singleton]; exact a0)) (fun hm => by
      rcases List.mem_cons.mp hm with h | h
      · exact g5 h
      · exact g3 h) g6) (by simp only [List.mem_cons, List.not_mem_nil, or_false, not_or]; exact ⟨a0, g4⟩)) (by rw [List.mem_singleton]; exact a0)
  have lsm : ∀ x, x ∈ LKp ∨ x ∈ LCx → 290 ≤ x ∧ x < 374 ∨ 546 < x ∧ x < 565 := fun x hx => by
    have h1 : ∀ x ∈ LKp, 290 ≤ x ∧ x < 374 ∨ 546 < x ∧ x < 565 := by decide
    have h2 : ∀ x ∈ LCx, 290 ≤ x ∧ x < 374 ∨ 546 < x ∧ x < 565 := by decide
    rcases hx with hx | hx
    · exact h1 x hx
    · exact h2 x hx
  have fa : frS rfN S T6 := fun a e h1 h2 h3 => by
    have h2 : ¬ (290 ≤ a ∧ a < 565) := fun hm => h2 (mem_rfN.mpr hm)
    have hz : ∀ x ∈ 290 :: LAz, 290 ≤ x ∧ x < 565 := by decide
    refine cx a e (p1.1.fr a e h1 (fun hm => h2 (hz a hm)) h3) (fun hm => by have := lsm a (Or.inl hm); omega) (fun hm => by have := lsm a (Or.inr hm); omega) (by omega) (fun ea => ?_) h3
    have := h.nw.1 a (by omega) (by omega)
    rw [this] at h1
    cases h1
  have c341 : T6.2.2 341 = some (kA 7 61 (va_up (fun _ => none) 0 (some S1.1))) := u6.at (u5.at (sf4.2 341 _ (u3.at c341 (by decide)) (nm _ (by decide) (by decide)) (no52_ne rfl)) (by decide)) (by decide)
  have rb6 : rbS T6 1 (ckB (fsK S1.1 M) 0) := rc5.2.2.1.up u6 (by decide)
  obtain ⟨_, _, _, ⟨f5, e343, hf5⟩, v52, -, hm5⟩ := id rc5
  have rd6 : rdS T6 0 D := by
    have r1 := hD.up p1.1 (by decide)
    have r6 := r1.fr (S1 := T6) (fun a e g1 g2 g3 => cx a e g1 (fun hm => by have := lsm a (Or.inl hm); omega) (fun hm => by have := lsm a (Or.inr hm); omega) (by omega) (by omega) (by
      obtain ⟨e9, h9, k9⟩ := W1.2.2.1 a (by omega)
      rw [g1] at h9
      cases h9
      exact k9))
    obtain ⟨-, ver, loc, inp, out, ids, ix, seq, iln, val, oln, sc, so, U, -⟩ := r6
    exact ⟨Nat.zero_le _, ver, loc, inp, out, ids, ix, seq, iln, val, oln, sc, so, U, fun i hi => absurd hi (Nat.not_lt_zero _)⟩
  have t6 : buX T6 V6 531 1600 110 [] := by
    obtain ⟨tv, tg, te, tk⟩ := t1
    refine ⟨?_, tg, cx 531 _ te (by decide) (by decide) (by decide) (by omega) (no52_ne rfl), tk⟩
    rw [vv 110 (by decide) (by decide) (by decide) (by decide), ← p1.2.2 110 (by decide)]
    exact tv
  have n4 := sf4.1.1
  have s4 := sf4.1.2.1
  have n3 : T3.1 = S2.1 := u3.1
  have s3 : T3.2.1 = S2.2.1 := u3.2.1
  have n5 : S5.1 = S4.1 := u5.1
  have s5 : S5.2.1 = S4.2.1 := u5.2.1
  have n6 : T6.1 = S5.1 := u6.1
  have s6 : T6.2.1 = S5.2.1 := u6.2.1
  have le4 := sf4.1.2.2
  refine hk T6 V6 F4 M eM ?_ fa (by omega) (by omega)
  rw [← n1]
  refine ⟨W6, ⟨_, c341, fun i hi => va_up_ne _ _ (by omega)⟩, rb6, ⟨?_, ?_, by decide⟩, ⟨⟨_, u6.at e342 (by decide), hg5⟩, ?_, by decide, hm5⟩, ⟨⟨f5, u6.at e343 (by decide), hf5⟩, (p6.2.2 52 (by decide)).trans v52, by decide, hm5⟩, ⟨rd6, ?_⟩, t6, ⟨?_, by decide, ?_⟩, ?_, by omega⟩
  · rw [v3 47 (by decide) (by decide), p3.2.2 47 (by decide)]; exact x47
  · rw [v3 48 (by decide) (by decide), eV3, va_up_ne _ _ (by decide)]; exact va_up_self _ _ _
  · rw [p6.2.2 50 (by decide), eV5]; exact va_up_self _ _ _
  · rw [eV6, va_up_ne _ _ (by decide), va_up_ne _ _ (by decide)]; exact va_up_self _ _ _
  · rw [eV6, va_up_ne _ _ (by decide)]; exact va_up_self _ _ _
  · rw [eV6]; exact va_up_self _ _ _
  · rw [vv 55 (by decide) (by decide) (by decide) (by decide)]; exact v55

/-! THE REFERENCE: the fault of a block, whole -/
theorem mdF_ltR {S : ks_S} {n : Nat} {B : Nat → Bk} (hB : ∀ i, i < n → rkK S (B i)) (hW : chW n B) {x : Nat} (hx : x < n) : mdF B x < 2 ^ 32 := by
  have gen : ∀ (u k c : Nat) (f : Nat → Nat), k ≤ n → (∀ j, j < c → f j < 2 ^ 32) → ∀ j, j < (mdL B u k c f).1 → (mdL B u k c f).2 j < 2 ^ 32 := by
    intro u
    induction u with
    | zero => intro k c f hk h j hj; exact h j hj
    | succ u ih =>
      intro k c f hk h j hj
      unfold mdL at hj ⊢
      split
      · next h0 => rw [if_pos h0] at hj; exact h j hj
      · next h0 =>
        rw [if_neg h0] at hj
        have hp := hW.par (b := k - 1) (by omega)
        exact ih _ _ _ (by omega) (insF_lt h (rkK.num (hB (k - 1) (by omega))).2) j hj
  have e2 : 1 ≤ (mdL B 11 (x + 1) 0 (fun _ => 0)).1 := by
    rw [mdL, if_neg (by omega)]
    exact mdL_pos.1
  exact gen 11 (x + 1) 0 (fun _ => 0) (by omega) (fun j hj => absurd hj (Nat.not_lt_zero j)) _ (by omega)
/-- the rows that work is done in -/
def rwS (S : ks_S) : Prop := (mhR S ∧ ∃ g, kO g ∧ S.2.2 305 = some (kB 32 g)) ∧ wA S 337 (tg_num 545259519) ∧ (∃ x, wA S 338 x) ∧ (∃ x, wA S 339 x) ∧ (∃ x, wA S 340 x) ∧ (∃ f, S.2.2 344 = some (kL 11 f)) ∧ (∃ f, S.2.2 345 = some (kN 10 f)) ∧ (∃ g, kO g ∧ S.2.2 355 = some (kB 416 g)) ∧ (∃ g, kO g ∧ S.2.2 356 = some (kB 64 g)) ∧ (∃ g, kO g ∧ S.2.2 357 = some (kB 32 g)) ∧ (∃ x, wA S 358 x) ∧ ∃ x, wA S 359 x
theorem rwS.up {S S1 : ks_S} {L : List Nat} (h : rwS S) (hu : ks_up S S1 L) (hL : ∀ x ∈ L, x < 291 ∨ (305 < x ∧ x < 337) ∨ (340 < x ∧ x < 344) ∨ (345 < x ∧ x < 355) ∨ 359 < x) : rwS S1 := by
  obtain ⟨⟨hM, g5, k5, h305⟩, h337, ⟨x8, h338⟩, ⟨x9, h339⟩, ⟨x0, h340⟩, ⟨f4, h344⟩, ⟨f5, h345⟩, ⟨gt, kt, h355⟩, ⟨gb, kb, h356⟩, ⟨gr, kr, h357⟩, ⟨xa, h358⟩, ⟨xb, h359⟩⟩ := h
  have n9 : ∀ a, (291 ≤ a ∧ a ≤ 305) ∨ (337 ≤ a ∧ a ≤ 340) ∨ (344 ≤ a ∧ a ≤ 345) ∨ (355 ≤ a ∧ a ≤ 359) → a ∉ L := fun a ha hm => by have := hL a hm; omega
  exact ⟨⟨hM.up hu (fun x hx => by have := hL x hx; omega), g5, k5, hu.at h305 (n9 _ (by decide))⟩, h337.up hu (n9 _ (by decide)), ⟨x8, h338.up hu (n9 _ (by decide))⟩, ⟨x9, h339.up hu (n9 _ (by decide))⟩, ⟨x0, h340.up hu (n9 _ (by decide))⟩, ⟨f4, hu.at h344 (n9 _ (by decide))⟩, ⟨f5, hu.at h345 (n9 _ (by decide))⟩, ⟨gt, kt, hu.at h355 (n9 _ (by decide))⟩, ⟨gb, kb, hu.at h356 (n9 _ (by decide))⟩, ⟨gr, kr, hu.at h357 (n9 _ (by decide))⟩, ⟨xa, h358.up hu (n9 _ (by decide))⟩, xb, h359.up hu (n9 _ (by decide))⟩
/-- why a block is refused before its coins are looked at -/
def ffF (B : Nat → Bk) (M : List Nat) (q : Nat) : Nat := if rhF B M q ≠ 0 then rhF B M q else rtF M (bkH (B q) + 1)
abbrev LFt : List Nat := [290, 291, 292, 293, 299, 305, 338, 344, 345, 355, 356, 357]
set_option maxRecDepth 100000 in
set_option maxHeartbeats 800000 in
theorem c_md_fault {l : Launch} {G : ks_G} {d : Nat} {S : ks_S} {V : Nat → Value} {P y N : Nat} {M : List Nat} (hO : S.2.2 290 = some (rfE V)) (hK : pdK S P y N M) {n q : Nat} {B : Nat → Bk} (hR : rbS S n B) (hq : q < n) (hW : chW n B) (hH : rbH n B) (hhb : bkH (B q) + 2 < 2 ^ 30) (hL16 : M.length ≤ 1600) (hw : rwS S) (hPy : P = 346 ∧ y = 531) : ks_P l G yX16_fault mX16_fault (d + 5) [.ref 290, .ref P, .int (nI q)] S (fun z S' => z = some (.int (nI (ffF B M q))) ∧ ks_up S S' LFt ∧ (∃ V', S'.2.2 290 = some (rfE V') ∧ ∀ k, k ≠ 40 → k ≠ 41 → k ≠ 63 → V' k = V k) ∧ rwS S') := by
  obtain ⟨⟨hM, g5, k5, h305⟩, h337, ⟨x8, h338⟩, ⟨x9, h339⟩, ⟨x0, h340⟩, ⟨f4, h344⟩, ⟨f5, h345⟩, ⟨gt, kt, h355⟩, ⟨gb, kb, h356⟩, ⟨gr, kr, h357⟩, ⟨xa, h358⟩, ⟨xb, h359⟩⟩ := id hw
  have b9 := blk_b hK.bl
  have tm9 : tmB M < 2 ^ 32 := ks_num_lt hK.kO 4 68
  obtain ⟨⟨bf, h341, hbf⟩, hB, hn61⟩ := id hR
  have mv := mdF_ltR hB hW hq
  obtain ⟨g, A, gi, ⟨ey, kg⟩, ⟨hMN, hN16, hPB, hP6, hy6⟩, hg, hbl, X, hA⟩ := id hK
  obtain ⟨oq, pdq, ⟨ghq, ehq, khq, ahq⟩, wkq, bdq⟩ := hB q (by omega)
  refine ks_of (by decide) rfl rfl (Nat.le_of_ble_eq_true rfl) ?_
  show ks_X l G mX16_fault (d + 5) 0 [(0, .ref 290), (1, .ref P), (2, .int (nI q))] [] S _
  refine ks_aload_n dX16_fault_0 rfl rfl ?_
  refine ks_getf (T := TX16) (kf := 46) kx_2414 rfl in_X16 cl_X16 (by decide) hO rfl dX16_fault_1 rfl ?_
  refine ks_iload_n dX16_fault_4 rfl rfl ?_
  refine ks_aaldN (i := q) (b := (bkN (B q))) (by decide) h341 rfl (by omega) (by decide) (hbf q (by omega)) dX16_fault_5 rfl ?_
  refine ks_getN (T := TX12) (kf := 6) kx_2066 rfl in_X12 cl_X12 (by decide) oq rfl dX16_fault_6 rfl ?_
  refine ks_if_eqZ (tgt := 14) dX16_fault_9 (by decide) rfl (fun h1 => ?_) (fun h1 => ?_)
  · have bq : ¬ bkD (B q) = true := by rw [h1]; decide
    refine ks_aload_n dX16_fault_14 rfl rfl ?_
    refine ks_aload_n dX16_fault_15 rfl rfl ?_
    refine ks_getN (T := TX13) (kf := 0) kx_1813 rfl in_X13 cl_X13 (by decide) X.1 rfl dX16_fault_16 rfl ?_
    refine ks_bipush (x := nI 72) dX16_fault_19 (by decide) rfl ?_
    refine ks_iconst (x := nI 4) dX16_fault_21 (by decide) rfl ?_
    refine ks_callV (n := 3) (M' := mX16_number) (c_pd_num (d := d + 4) hK (i := 72) (k := 4) (by omega) (by decide)) hO cl_X16 rfl kx_2020 kx_2022 kxp_68 kx_30 kx_2023 (by decide +kernel) rfl (by decide) (Nat.le_of_ble_eq_true rfl) rfl dX16_fault_22 rfl (fun z2 T2 y2 => ?_)
    obtain ⟨rfl, hT2⟩ := y2
    obtain rfl := hT2.symm
    rw [show ks_num (mg M) 72 4 = btB M from rfl]
    refine ks_l2iN dX16_fault_25 rfl ?_
    refine ks_aload_n dX16_fault_26 rfl rfl ?_
    refine ks_iload_n dX16_fault_27 rfl rfl ?_
    refine ks_callV (n := 1) (M' := mX16_due) (c_md_due (d := d + 2) hO hR hq hW hH (by omega) h337 h345 h338) hO cl_X16 rfl kx_2012 kx_2014 kxp_66 kx_30 kx_2015 (by decide +kernel) rfl (by decide) (Nat.le_of_ble_eq_true rfl) rfl dX16_fault_28 rfl (fun z3 T3 y3 => ?_)
    obtain ⟨rfl, u3, ⟨x3, w3⟩, f3, e3⟩ := y3
    have o3 := u3.at hO (by decide)
    have K3 := hK.up u3 (fun x hx => by simp only [List.mem_cons, List.not_mem_nil, or_false] at hx; omega)
    have R3 := hR.up u3 (by decide)
    have rw3 : rwS T3 := ⟨⟨hM.up u3 (by decide), g5, k5, u3.at h305 (by decide)⟩, h337.up u3 (by decide), ⟨x3, w3⟩, ⟨x9, h339.up u3 (by decide)⟩, ⟨x0, h340.up u3 (by decide)⟩, ⟨f4, u3.at h344 (by decide)⟩, ⟨f3, e3⟩, ⟨gt, kt, u3.at h355 (by decide)⟩, ⟨gb, kb, u3.at h356 (by decide)⟩, ⟨gr, kr, u3.at h357 (by decide)⟩, ⟨xa, h358.up u3 (by decide)⟩, xb, h359.up u3 (by decide)⟩
    have U3 : ks_up S T3 LFt := u3.mono (by decide)
    refine ks_icmp_eq (tgt := 36) dX16_fault_31 (by decide) rfl (fun h4 => ?_) (fun h4 => ?_)
    · obtain ⟨g3, A3, gi3, ⟨ey3, kg3⟩, ⟨hMN3, hN163, hPB3, hP63, hy63⟩, hg3, hbl3, X3, hA3⟩ := id K3
      refine ks_aload_n dX16_fault_36 rfl rfl ?_
      refine ks_aload_n dX16_fault_37 rfl rfl ?_
      refine ks_getN (T := TX13) (kf := 0) kx_1813 rfl in_X13 cl_X13 (by decide) X3.1 rfl dX16_fault_38 rfl ?_
      refine ks_bipush (x := nI 68) dX16_fault_41 (by decide) rfl ?_
      refine ks_iconst (x := nI 4) dX16_fault_43 (by decide) rfl ?_
      refine ks_callV (n := 3) (M' := mX16_number) (c_pd_num (d := d + 4) K3 (i := 68) (k := 4) (by omega) (by decide)) o3 cl_X16 rfl kx_2020 kx_2022 kxp_68 kx_30 kx_2023 (by decide +kernel) rfl (by decide) (Nat.le_of_ble_eq_true rfl) rfl dX16_fault_44 rfl (fun z5 T5 y5 => ?_)
      obtain ⟨rfl, hT5⟩ := y5
      obtain rfl := hT5.symm
      rw [show ks_num (mg M) 68 4 = tmB M from rfl]
      refine ks_lstore_n dX16_fault_47 (by decide) rfl ?_
      refine ks_sub [(3, _), (0, _), (1, _), (2, _)] rfl ?_
      refine ks_lload_n dX16_fault_48 rfl rfl ?_
      refine ks_aload_n dX16_fault_49 rfl rfl ?_
      refine ks_iload_n dX16_fault_50 rfl rfl ?_
      refine ks_callV (n := 1) (M' := mX16_middle) (c_md_middle (d := d + 2) o3 R3 hW hq (u3.at h344 (by decide))) o3 cl_X16 rfl kx_2824 kx_2826 kxp_136 kx_30 kx_2827 (by decide +kernel) rfl (by decide) (Nat.le_of_ble_eq_true rfl) rfl dX16_fault_51 rfl (fun z6 T6 y6 => ?_)
      obtain ⟨rfl, u6, f6, e6⟩ := y6
      have o6 := u6.at o3 (by decide)
      have K6 := K3.up u6 (fun x hx => by simp only [List.mem_cons, List.not_mem_nil, or_false] at hx; omega)
      have R6 := R3.up u6 (by decide)
      obtain ⟨⟨hM3, g53, k53, h3053⟩, h3373, ⟨x83, h3383⟩, ⟨x93, h3393⟩, ⟨x03, h3403⟩, -, ⟨f53, h3453⟩, ⟨gt3, kt3, h3553⟩, ⟨gb3, kb3, h3563⟩, ⟨gr3, kr3, h3573⟩, ⟨xa3, h3583⟩, ⟨xb3, h3593⟩⟩ := id rw3
      have rw6 : rwS T6 := ⟨⟨hM3.up u6 (by decide), g53, k53, u6.at h3053 (by decide)⟩, h3373.up u6 (by decide), ⟨x83, h3383.up u6 (by decide)⟩, ⟨x93, h3393.up u6 (by decide)⟩, ⟨x03, h3403.up u6 (by decide)⟩, ⟨f6, e6⟩, ⟨f53, u6.at h3453 (by decide)⟩, ⟨gt3, kt3, u6.at h3553 (by decide)⟩, ⟨gb3, kb3, u6.at h3563 (by decide)⟩, ⟨gr3, kr3, u6.at h3573 (by decide)⟩, ⟨xa3, h3583.up u6 (by decide)⟩, xb3, h3593.up u6 (by decide)⟩
      have U6 : ks_up S T6 LFt := U3.trans (u6.mono (by decide))
      refine ks_lif_gtN (tgt := 60) (by omega) (by omega) dX16_fault_54 rfl dX16_fault_55 (by decide) rfl (fun h7 => ?_) (fun h7 => ?_)
      · have eF : ffF B M q = rtF M (bkH (B q) + 1) := by
          have erh : rhF B M q = 0 := by unfold rhF; rw [if_neg bq, if_pos h4, if_neg (show ¬ tmB M ≤ mdF B q by omega)]
          unfold ffF
          rw [erh, if_neg (fun h => h rfl)]
        rw [eF]
        obtain ⟨g6, A6, gi6, ⟨ey6, kg6⟩, ⟨hMN6, hN166, hPB6, hP66, hy66⟩, hg6, hbl6, X6, hA6⟩ := id K6
        refine ks_aload_n dX16_fault_60 rfl rfl ?_
        refine ks_getN (T := TX13) (kf := 1) kx_1814 rfl in_X13 cl_X13 (by decide) X6.1 rfl dX16_fault_61 rfl ?_
        refine ks_if_neN (tgt := 70) (by omega) dX16_fault_64 (by decide) rfl (fun h8 => ?_) (fun h8 => ?_)
        · refine ks_aload_n dX16_fault_70 rfl rfl ?_
          refine ks_aload_n dX16_fault_71 rfl rfl ?_
          refine ks_getN (T := TX13) (kf := 8) kx_1828 rfl in_X13 cl_X13 (by decide) X6.1 rfl dX16_fault_72 rfl ?_
          refine ks_aload_n dX16_fault_75 rfl rfl ?_
          refine ks_getN (T := TX13) (kf := 1) kx_1814 rfl in_X13 cl_X13 (by decide) X6.1 rfl dX16_fault_76 rfl ?_
          obtain ⟨⟨hM6, g56, k56, h3056⟩, h3376, ⟨x86, h3386⟩, ⟨x96, h3396⟩, ⟨x06, h3406⟩, ⟨f46, h3446⟩, ⟨f56, h3456⟩, ⟨gt6, kt6, h3556⟩, ⟨gb6, kb6, h3566⟩, ⟨gr6, kr6, h3576⟩, ⟨xa6, h3586⟩, ⟨xb6, h3596⟩⟩ := id rw6
          refine ks_callV (n := 2) (M' := mX16_root) (c_md_root (d := d) o6 hM6 h3056 k56 X6.2.2.1 X6.2.2.2 b9.2 (by omega) (by decide) (by simp only [List.mem_cons, List.not_mem_nil, or_false, not_or]; omega) h3556 kt6 h3566 kb6 h3576 kr6) o6 cl_X16 rfl kx_2008 kx_2010 kxp_65 kx_30 kx_2011 (by decide +kernel) rfl (by decide) (Nat.le_of_ble_eq_true rfl) rfl dX16_fault_79 rfl (fun z7 T7 y7 => ?_)
          obtain ⟨rfl, u7, M7, ⟨gw7, kw7, e7⟩, ⟨gt7, kt7, t7⟩, ⟨gb7, kb7, b7⟩, gr7, kr7, r7, hr7⟩ := y7
          have o7 := u7.at o6 (by decide)
          have K7 := K6.up u7 (fun x hx => by simp only [List.mem_cons, List.not_mem_nil, or_false] at hx; omega)
          have R7 := R6.up u7 (by decide)
          have rw7 : rwS T7 := ⟨⟨M7, gw7, kw7, e7⟩, h3376.up u7 (by decide), ⟨x86, h3386.up u7 (by decide)⟩, ⟨x96, h3396.up u7 (by decide)⟩, ⟨x06, h3406.up u7 (by decide)⟩, ⟨f46, u7.at h3446 (by decide)⟩, ⟨f56, u7.at h3456 (by decide)⟩, ⟨gt7, kt7, t7⟩, ⟨gb7, kb7, b7⟩, ⟨gr7, kr7, r7⟩, ⟨xa6, h3586.up u7 (by decide)⟩, xb6, h3596.up u7 (by decide)⟩
          have U7 : ks_up S T7 LFt := U6.trans (u7.mono (by decide))
          obtain ⟨g7, A7, gi7, ⟨ey7, kg7⟩, ⟨hMN7, hN167, hPB7, hP67, hy67⟩, hg7, hbl7, X7, hA7⟩ := id K7
          refine ks_aload_n dX16_fault_82 rfl rfl ?_
          refine ks_getf (T := TX16) (kf := 60) kx_2428 rfl in_X16 cl_X16 (by decide) o7 rfl dX16_fault_83 rfl ?_
          refine ks_iconst (x := nI 0) dX16_fault_86 (by decide) rfl ?_
          refine ks_aload_n dX16_fault_87 rfl rfl ?_
          refine ks_getN (T := TX13) (kf := 0) kx_1813 rfl in_X13 cl_X13 (by decide) X7.1 rfl dX16_fault_88 rfl ?_
          refine ks_bipush (x := nI 36) dX16_fault_91 (by decide) rfl ?_
          refine ks_bipush (x := nI 32) dX16_fault_93 (by decide) rfl ?_
          refine ks_callS (n := 5) (M' := mX16_alike) (c_md_alike32 (d := d + 4) r7 kr7 ey7 kg7 (i := 0) (k := 36) (by decide) (by omega) (by decide) (by omega)) kx_2134 kx_2135 kx_30 kx_2136 (by decide +kernel) rfl (by decide) (Nat.le_of_ble_eq_true rfl) rfl dX16_fault_95 rfl (fun z8 T8 y8 => ?_)
          obtain ⟨rfl, hT8⟩ := y8
          obtain rfl := hT8.symm
          have ids : ∀ j, j < 32 * mg M 80 → gi6 j = idsF M j := fun j hj => by
            have := (hA6 (j / 32) (by omega)).2.2.2 (j % 32) (by omega)
            rw [show 32 * (j / 32) + j % 32 = j by omega] at this
            exact this
          have es : sm32 gr7 0 g7 36 = sm32 (root_ (idsF M) (mg M 80)) 0 (mg M) 36 := sm32_cg (fun j hj => by rw [Nat.zero_add, hr7 j hj, root_c ids j hj]) (fun j hj => hg7 _ (by omega))
          rw [es]
          refine ks_if_neZ (tgt := 104) dX16_fault_98 (by decide) rfl (fun h9 => ?_) (fun h9 => ?_)
          · refine ks_iconst (x := nI 0) dX16_fault_104 (by decide) rfl ?_
            refine ks_istore dX16_fault_105 (by decide) rfl ?_
            refine ks_sub [(5, _), (0, _), (1, _), (2, _), (3, _)] rfl ?_
            have eR : rtF M (bkH (B q) + 1) = if sameF M = true then 6 else if r1F M (mg M 80) 0 ≠ 0 then r1F M (mg M 80) 0 else if 60 < sum_ (asM M) (mg M 80) then 9 else if ∃ t, t < mg M 80 ∧ laM M (bkH (B q) + 1) t = false then 10 else 0 := by
              unfold rtF
              rw [if_neg h8]
              by_cases hs : sameF M = true
              · rw [if_pos (Or.inr hs), if_pos hs]
              · rw [if_neg (by rintro (h | h); rw [h9] at h; cases h; exact hs h), if_neg hs]
            rw [eR]
            refine ks_X.mono (ks_sub [(0, _), (1, _), (2, _), (3, _), (5, _)] rfl (l_ftSame (d := d + 1) (h := bkH (B q) + 1) o7 K7 R7 hq rfl (by omega) hL16 (mg M 80) 0 (by omega) (fun p q h => absurd h (Nat.not_lt_zero _)))) (fun z S' hz => ?_)
            obtain ⟨rfl, V', KV⟩ := hz
            exact ⟨rfl, U7.trans (KV.1.mono (by decide)), ⟨V', KV.2.1, KV.2.2⟩, rw7.up KV.1 (by decide)⟩
          · refine ks_bipush (x := nI 6) dX16_fault_101 (by decide) rfl ?_
            refine ks_iret rfl dX16_fault_103 ?_
            rw [show rtF M (bkH (B q) + 1) = 6 by unfold rtF; rw [if_neg h8, if_pos (Or.inl h9)]]
            exact ⟨rfl, U7, ⟨V, o7, fun _ _ _ _ => rfl⟩, rw7⟩
        · refine ks_bipush (x := nI 7) dX16_fault_67 (by decide) rfl ?_
          refine ks_iret rfl dX16_fault_69 ?_
          rw [show rtF M (bkH (B q) + 1) = 7 by unfold rtF; rw [if_pos h8]]
          exact ⟨rfl, U6, ⟨V, o6, fun _ _ _ _ => rfl⟩, rw6⟩
      · refine ks_iconst (x := nI 5) dX16_fault_58 (by decide) rfl ?_
        refine ks_iret rfl dX16_fault_59 ?_
        have erh : rhF B M q = 5 := by unfold rhF; rw [if_neg bq, if_pos h4, if_pos (show tmB M ≤ mdF B q by omega)]
        rw [show ffF B M q = 5 by unfold ffF; rw [erh]; rfl]
        exact ⟨rfl, U6, ⟨V, o6, fun _ _ _ _ => rfl⟩, rw6⟩
    · refine ks_iconst (x := nI 4) dX16_fault_34 (by decide) rfl ?_
      refine ks_iret rfl dX16_fault_35 ?_
      rw [show ffF B M q = 4 by unfold ffF rhF; rw [if_neg bq, if_neg h4]; rfl]
      exact ⟨rfl, U3, ⟨V, o3, fun _ _ _ _ => rfl⟩, rw3⟩
  · refine ks_iconst (x := nI 3) dX16_fault_12 (by decide) rfl ?_
    refine ks_iret rfl dX16_fault_13 ?_
    rw [show ffF B M q = 3 by unfold ffF rhF; rw [if_pos h1]; rfl]
    exact ⟨rfl, ks_up.rf _ _, ⟨V, hO, fun _ _ _ _ => rfl⟩, hw⟩

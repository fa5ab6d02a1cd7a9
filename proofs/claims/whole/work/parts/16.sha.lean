/-! HASHER: sha -/
theorem ks_pt_congr {D D' : Nat → Nat} (g : Nat → Nat) (i n : Nat) (h : ∀ j, j < n → D j = D' j) : ks_pt D g i n = ks_pt D' g i n := by
  funext j
  unfold ks_pt
  by_cases e : i ≤ j ∧ j < i + n
  · rw [if_pos e, if_pos e, h _ (by omega)]
  · rw [if_neg e, if_neg e]
/-- the last block where its length finds room -/
theorem sh_last1 {g gl : Nat → Nat} {i n : Nat} (hr : n % 64 < 56) {F : Nat → Int32} (hF : ∀ x, x < 8 → F x = sh_all (sh_msg (fun k => g (i + k)) n) (n / 64) x) : ∀ x, x < 8 → sh_blk F (sh_ln (sh_pd g gl (i + n / 64 * 64) (n % 64)) n 8) 0 x = sh_all (sh_msg (fun k => g (i + k)) n) (sh_len n / 64) x := by
  have e0 : sh_len n = n / 64 * 64 + 64 := by unfold sh_len; omega
  have e1 : sh_len n / 64 = n / 64 + 1 := by rw [e0]; omega
  intro x hx
  rw [e1]
  show _ = sh_blk (sh_all _ (n / 64)) _ (64 * (n / 64)) x
  refine sh_blk_congr hF (fun j hj => ?_) x hx
  rw [Nat.zero_add]
  unfold sh_ln sh_msg
  rw [e0, sh_pd_at _ _ _ _ _ hj]
  by_cases h1 : j < n % 64
  · rw [if_neg (by omega), if_pos h1, if_pos (by omega)]
    congr 1
    omega
  · by_cases h2 : j = n % 64
    · rw [if_neg (by omega), if_neg h1, if_pos h2, if_neg (by omega), if_pos (by omega)]
    · by_cases h3 : 64 ≤ j + 8
      · rw [if_pos ⟨h3, hj⟩, if_neg (by omega), if_neg (by omega), if_pos (by omega), show n / 64 * 64 + 64 - 1 - (64 * (n / 64) + j) = 63 - j by omega]
      · rw [if_neg (by omega), if_neg h1, if_neg h2, if_neg (by omega), if_neg (by omega), if_neg (by omega)]
/-- the last two blocks where it does not -/
theorem sh_last2 {g gl : Nat → Nat} {i n : Nat} (hr : ¬ n % 64 < 56) {F : Nat → Int32} (hF : ∀ x, x < 8 → F x = sh_all (sh_msg (fun k => g (i + k)) n) (n / 64) x) : ∀ x, x < 8 → sh_blk (sh_blk F (sh_pd g gl (i + n / 64 * 64) (n % 64)) 0) (sh_ln (ks_fill (sh_pd g gl (i + n / 64 * 64) (n % 64)) 0 64 0) n 8) 0 x = sh_all (sh_msg (fun k => g (i + k)) n) (sh_len n / 64) x := by
  have e0 : sh_len n = n / 64 * 64 + 128 := by unfold sh_len; omega
  have e1 : sh_len n / 64 = n / 64 + 1 + 1 := by rw [e0]; omega
  intro x hx
  rw [e1]
  show _ = sh_blk (sh_blk (sh_all _ (n / 64)) _ (64 * (n / 64))) _ (64 * (n / 64 + 1)) x
  refine sh_blk_congr (fun y hy => sh_blk_congr hF (fun j hj => ?_) y hy) (fun j hj => ?_) x hx
  · rw [Nat.zero_add]
    unfold sh_msg
    rw [e0, sh_pd_at _ _ _ _ _ hj]
    by_cases h1 : j < n % 64
    · rw [if_pos h1, if_pos (by omega)]
      congr 1
      omega
    · by_cases h2 : j = n % 64
      · rw [if_neg h1, if_pos h2, if_neg (by omega), if_pos (by omega)]
      · rw [if_neg h1, if_neg h2, if_neg (by omega), if_neg (by omega), if_neg (by omega)]
  · rw [Nat.zero_add]
    unfold sh_ln sh_msg ks_fill
    rw [e0]
    by_cases h3 : 64 ≤ j + 8
    · rw [if_pos ⟨h3, hj⟩, if_neg (by omega), if_neg (by omega), if_pos (by omega), show n / 64 * 64 + 128 - 1 - (64 * (n / 64 + 1) + j) = 63 - j by omega]
    · rw [if_neg (by omega), if_pos (by omega), if_neg (by omega), if_neg (by omega), if_neg (by omega)]
def sha_P (S : ks_S) (st wo la ou No i oa n : Nat) (g go : Nat → Nat) : Option Value → ks_S → Prop := (fun z S' => z = none ∧ ks_up S S' [wo, st, la, ou] ∧ (∃ w2, S'.2.2 wo = some (kI 64 w2)) ∧ (∃ F2, S'.2.2 st = some (kI 8 F2)) ∧ (∃ g2, kO g2 ∧ S'.2.2 la = some (kB 64 g2)) ∧ S'.2.2 ou = some (kB No (ks_pt (sha_ (fun k => g (i + k)) n) go oa 32)))
set_option maxRecDepth 100000 in
set_option maxHeartbeats 40000000 in
theorem l_shaWhole {l : Launch} {G : ks_G} {d : Nat} {S : ks_S} {h st wo la fr ou N No i oa n : Nat} {F f : Nat → Int32} {g gl go : Nat → Nat} {r2 r4 r5 : Value} (hh : S.2.2 h = some (.inr (9, [.ref st, .ref wo, r2, .ref la, r4, r5]))) (hs : S.2.2 st = some (kI 8 F)) (hw : S.2.2 wo = some (kI 64 f)) (hl : S.2.2 la = some (kB 64 gl)) (hgl : kO gl) (hf : S.2.2 fr = some (kB N g)) (hg : kO g) (hi : i + n ≤ N) (hN : N < 2 ^ 28) (ho : S.2.2 ou = some (kB No go)) (hoa : oa + 32 ≤ No) (hNo : No < 2 ^ 30) (hK : ks_stOK S) (hsB : st < ks_B) (hwB : wo < ks_B) (n_st_wo : st ≠ wo) (n_la_fr : la ≠ fr) (n_la_ou : la ≠ ou) : ∀ k q, q + k = n / 64 → ∀ S1, ks_up S S1 [wo, st] → (∃ w2, S1.2.2 wo = some (kI 64 w2)) → ∀ F1, S1.2.2 st = some (kI 8 F1) → (∀ x, x < 8 → F1 x = sh_all (sh_msg (fun k => g (i + k)) n) q x) → ks_X l G mX6_sha (d + 3) 26 [(7, .int (nI (64 * q))), (6, .int (nI (n / 64 * 64))), (0, .ref h), (1, .ref fr), (2, .int (nI i)), (3, .int (nI n)), (4, .ref ou), (5, .int (nI oa))] [] S1 (sha_P S st wo la ou No i oa n g go) := by
  have n_h_la : h ≠ la := Ne.symm (ks_neO hl hh)
  have n_st_la : st ≠ la := ks_neT hs hl (by decide)
  have n_wo_la : wo ≠ la := ks_neT hw hl (by decide)
  have n_h_st : h ≠ st := Ne.symm (ks_neO hs hh)
  have n_h_wo : h ≠ wo := Ne.symm (ks_neO hw hh)
  have n_fr_st : fr ≠ st := ks_neT hf hs (by decide)
  have n_fr_wo : fr ≠ wo := ks_neT hf hw (by decide)
  have n_ou_st : ou ≠ st := ks_neT ho hs (by decide)
  have n_ou_wo : ou ≠ wo := ks_neT ho hw (by decide)
  intro k
  induction k with
  | zero =>
    intro q hq S1 hu ⟨w2, hw1⟩ F1 hs1 hF
    have hh1 := hu.at hh (by simp [n_h_wo, n_h_st])
    have hl1 := hu.at hl (by simp [Ne.symm n_wo_la, Ne.symm n_st_la])
    have hf1 := hu.at hf (by simp [n_fr_wo, n_fr_st])
    have ho1 := hu.at ho (by simp [n_ou_wo, n_ou_st])
    have hK1 := hu.st hK (by simp [hsB, hwB])
    refine ks_iload dX6_sha_26 rfl rfl ?_
    refine ks_iload dX6_sha_28 rfl rfl ?_
    refine ks_icmp_ge (tgt := 48) dX6_sha_30 (by decide) rfl (fun hc => ?_) (fun hc => ?_)
    · refine ks_aload_n dX6_sha_48 rfl rfl ?_
      refine ks_aload_n dX6_sha_49 rfl rfl ?_
      refine ks_iload_n dX6_sha_50 rfl rfl ?_
      refine ks_iload dX6_sha_51 rfl rfl ?_
      refine ks_iadd dX6_sha_53 rfl ?_
      refine ks_ti (y := nI (i + n / 64 * 64)) (nI_add i _) ?_
      refine ks_iload_n dX6_sha_54 rfl rfl ?_
      refine ks_iload dX6_sha_55 rfl rfl ?_
      refine ks_isub dX6_sha_57 rfl ?_
      refine ks_ti (y := nI (n % 64)) (by rw [pk_sub (by omega)]; congr 1; omega) ?_
      refine ks_callV (n := 3) (M' := mX6_pad) (c_pad (d := d) hh1 hl1 hf1 (by omega) (Nat.mod_lt _ (by decide)) (by omega)) hh1 cl_X6 rfl kx_893 kx_895 kxp_9 kx_3 kx_896 (by decide +kernel) rfl (by decide) (by decide) rfl dX6_sha_58 rfl (fun r2 S2 h2 => ?_)
      obtain ⟨rfl, rfl⟩ := h2
      have hu2 : ks_up S (ks_set S1 la (kB 64 (sh_pd g gl (i + n / 64 * 64) (n % 64)))) [wo, st, la, ou] := (hu.mono (by simp)).trans (ks_up_set _ _ (by simp))
      have hkp : kO (sh_pd g gl (i + n / 64 * 64) (n % 64)) := kO_pd hg hgl _ _
      have hK2 : ks_stOK (ks_set S1 la (kB 64 (sh_pd g gl (i + n / 64 * 64) (n % 64)))) := fun i q hq => (ks_set_ne _ _ (ks_neT (hK1 i q hq) hl1 (by decide))).trans (hK1 i q hq)
      have hh2 := (ks_set_ne (a := la) S1 (kB 64 (sh_pd g gl (i + n / 64 * 64) (n % 64))) n_h_la).trans hh1
      have hs2 := (ks_set_ne (a := la) S1 (kB 64 (sh_pd g gl (i + n / 64 * 64) (n % 64))) n_st_la).trans hs1
      have hw2 := (ks_set_ne (a := la) S1 (kB 64 (sh_pd g gl (i + n / 64 * 64) (n % 64))) n_wo_la).trans hw1
      have hl2 := ks_set_same S1 la (kB 64 (sh_pd g gl (i + n / 64 * 64) (n % 64)))
      have ho2 := (ks_set_ne (a := la) S1 (kB 64 (sh_pd g gl (i + n / 64 * 64) (n % 64))) (Ne.symm n_la_ou)).trans ho1
      generalize ks_set S1 la (kB 64 (sh_pd g gl (i + n / 64 * 64) (n % 64))) = S2 at hu2 hK2 hh2 hs2 hw2 hl2 ho2 ⊢
      refine ks_if_ne (tgt := 81) dX6_sha_61 (by decide) rfl (fun hc2 => ?_) (fun hc2 => ?_)
      · have hr : n % 64 < 56 := Nat.lt_of_not_le (fun hz => hc2 (by rw [if_neg (by omega)]))
        refine ks_iconst (x := 0) dX6_sha_81 (by decide) rfl ?_
        refine ks_istore dX6_sha_82 (by decide) rfl ?_
        refine ks_sub [(7, _), (6, _), (0, _), (1, _), (2, _), (3, _), (4, _), (5, _)] rfl ?_
        have h9 := l_shaEnd (l := l) (G := G) (d := d + 2) (P := (sha_P S st wo la ou No i oa n g go)) hh2 hs2 hw2 hl2 hkp ho2 hoa hNo (n := n) (by omega) hK2 hsB hwB n_st_wo n_la_ou (fun S' q1 q2 q3 q4 q5 => ⟨rfl, hu2.trans q1, q2, q3, ⟨_, kO_ln hkp n 8, q4⟩, by rw [q5, ks_pt_congr _ _ _ (fun j hj => sh_out_congr (sh_last1 hr (by rw [show n / 64 = q by omega]; exact hF)) hj)]; rfl⟩) 8 0 rfl
        rw [sh_ln_0, ks_set_id _ hl2] at h9
        exact ks_sub _ rfl h9
      · have hr : ¬ n % 64 < 56 := fun hz => by rw [if_pos hz] at hc2; exact absurd hc2 (by decide)
        refine ks_aload_n dX6_sha_64 rfl rfl ?_
        refine ks_aload_n dX6_sha_65 rfl rfl ?_
        refine ks_getf (T := TX6) (kf := 3) kx_84 rfl in_X6 cl_X6 (by decide) hh2 rfl dX6_sha_66 rfl ?_
        refine ks_iconst (x := 0) dX6_sha_69 (by decide) rfl ?_
        refine ks_callV (n := 2) (M' := mX6_shaBlock) (c_shaBlock (i := 0) hh2 hs2 hw2 hl2 hkp (by decide) (by decide) hK2 hsB hwB n_st_wo) hh2 cl_X6 rfl kx_887 kx_889 kxp_8 kx_3 kx_890 (by decide +kernel) rfl (by decide) (by decide) rfl dX6_sha_70 rfl (fun r3 S3 h3 => ?_)
        obtain ⟨rfl, hu3, ⟨w3, hw3⟩, hs3⟩ := h3
        have hh3 := hu3.at hh2 (by simp [n_h_wo, n_h_st])
        have hl3 := hu3.at hl2 (by simp [Ne.symm n_wo_la, Ne.symm n_st_la])
        have ho3 := hu3.at ho2 (by simp [n_ou_wo, n_ou_st])
        have hK3 := hu3.st hK2 (by simp [hsB, hwB])
        refine ks_aload_n dX6_sha_73 rfl rfl ?_
        refine ks_getf (T := TX6) (kf := 3) kx_84 rfl in_X6 cl_X6 (by decide) hh3 rfl dX6_sha_74 rfl ?_
        refine ks_iconst (x := 0) dX6_sha_77 (by decide) rfl ?_
        refine ks_callS (n := 2) (M' := mJ7_fill_031fb) (c_fillB (x := 0) hl3 (by decide)) kx_900 kx_901 kx_6 kx_902 (by decide +kernel) rfl (by decide) (by decide) rfl dX6_sha_78 rfl (fun r4 S4 h4 => ?_)
        obtain ⟨rfl, rfl⟩ := h4
        refine ks_iconst (x := 0) dX6_sha_81 (by decide) rfl ?_
        refine ks_istore dX6_sha_82 (by decide) rfl ?_
        refine ks_sub [(7, _), (6, _), (0, _), (1, _), (2, _), (3, _), (4, _), (5, _)] rfl ?_
        have hk4 : kO (ks_fill (sh_pd g gl (i + n / 64 * 64) (n % 64)) 0 64 0) := kO_fill hkp 0 64 (by decide)
        have h9 := l_shaEnd (l := l) (G := G) (d := d + 2) (P := (sha_P S st wo la ou No i oa n g go)) (S := ks_set S3 la (kB 64 (ks_fill (sh_pd g gl (i + n / 64 * 64) (n % 64)) 0 64 0))) ((ks_set_ne _ _ n_h_la).trans hh3) ((ks_set_ne _ _ n_st_la).trans hs3) ((ks_set_ne _ _ n_wo_la).trans hw3) (ks_set_same _ _ _) hk4 ((ks_set_ne _ _ (Ne.symm n_la_ou)).trans ho3) hoa hNo (n := n) (by omega) (fun i q hq => (ks_set_ne _ _ (ks_neT (hK3 i q hq) hl3 (by decide))).trans (hK3 i q hq)) hsB hwB n_st_wo n_la_ou (fun S' q1 q2 q3 q4 q5 => ⟨rfl, ((hu2.trans (hu3.mono (by simp))).trans (ks_up_set _ _ (by simp))).trans q1, q2, q3, ⟨_, kO_ln hk4 n 8, q4⟩, by rw [q5, ks_pt_congr _ _ _ (fun j hj => sh_out_congr (sh_last2 hr (by rw [show n / 64 = q by omega]; exact hF)) hj)]; rfl⟩) 8 0 rfl
        rw [sh_ln_0, ks_set_set] at h9
        exact ks_sub _ rfl h9
    · exact absurd (nI_le (by omega) (by omega)) hc
  | succ k ih =>
    intro q hq S1 hu ⟨w2, hw1⟩ F1 hs1 hF
    have hh1 := hu.at hh (by simp [n_h_wo, n_h_st])
    have hf1 := hu.at hf (by simp [n_fr_wo, n_fr_st])
    have hK1 := hu.st hK (by simp [hsB, hwB])
    refine ks_iload dX6_sha_26 rfl rfl ?_
    refine ks_iload dX6_sha_28 rfl rfl ?_
    refine ks_icmp_ge (tgt := 48) dX6_sha_30 (by decide) rfl (fun hc => ?_) (fun hc => ?_)
    · exact absurd hc (nI_ge (by omega) (by omega))
    · refine ks_aload_n dX6_sha_33 rfl rfl ?_
      refine ks_aload_n dX6_sha_34 rfl rfl ?_
      refine ks_iload_n dX6_sha_35 rfl rfl ?_
      refine ks_iload dX6_sha_36 rfl rfl ?_
      refine ks_iadd dX6_sha_38 rfl ?_
      refine ks_ti (y := nI (i + 64 * q)) (nI_add i _) ?_
      refine ks_callV (n := 2) (M' := mX6_shaBlock) (c_shaBlock hh1 hs1 hw1 hf1 hg (by omega) (by omega) hK1 hsB hwB n_st_wo) hh1 cl_X6 rfl kx_887 kx_889 kxp_8 kx_3 kx_890 (by decide +kernel) rfl (by decide) (by decide) rfl dX6_sha_39 rfl (fun r2 S2 h2 => ?_)
      obtain ⟨rfl, hu2, hw2, hs2⟩ := h2
      refine ks_iinc (y := nI (64 * (q + 1))) dX6_sha_42 rfl (nI_add (64 * q) 64) (by decide) rfl ?_
      refine ks_goto (tgt := 26) dX6_sha_45 (by decide) ?_
      refine ks_sub _ rfl (ih (q + 1) (by omega) S2 (hu.trans hu2) hw2 _ hs2 ?_)
      intro x hx
      refine sh_blk_congr hF (fun j hj => ?_) x hx
      unfold sh_msg
      rw [if_pos (by omega)]
      congr 1
      omega
set_option maxRecDepth 100000 in
set_option maxHeartbeats 40000000 in
theorem c_sha {l : Launch} {G : ks_G} {d : Nat} {S : ks_S} {h st wo la fr ou N No i oa n : Nat} {F f : Nat → Int32} {g gl go : Nat → Nat} {r2 r4 r5 : Value} (hh : S.2.2 h = some (.inr (9, [.ref st, .ref wo, r2, .ref la, r4, r5]))) (hs : S.2.2 st = some (kI 8 F)) (hw : S.2.2 wo = some (kI 64 f)) (hl : S.2.2 la = some (kB 64 gl)) (hgl : kO gl) (hf : S.2.2 fr = some (kB N g)) (hg : kO g) (hi : i + n ≤ N) (hN : N < 2 ^ 28) (ho : S.2.2 ou = some (kB No go)) (hoa : oa + 32 ≤ No) (hNo : No < 2 ^ 30) (hK : ks_stOK S) (hsB : st < ks_B) (hwB : wo < ks_B) (n_st_wo : st ≠ wo) (n_la_fr : la ≠ fr) (n_la_ou : la ≠ ou) : ks_P l G yX6_sha mX6_sha (d + 3) [.ref h, .ref fr, .int (nI i), .int (nI n), .ref ou, .int (nI oa)] S (sha_P S st wo la ou No i oa n g go) := by
  have n_h_st : h ≠ st := Ne.symm (ks_neO hs hh)
  have n_K5_st : ks_B + 5 ≠ st := by omega
  have hs0 := hK 5 _ rfl
  refine ks_of (by decide) rfl rfl (Nat.le_of_ble_eq_true rfl) ?_
  show ks_X l G mX6_sha (d + 3) 0 [(0, .ref h), (1, .ref fr), (2, .int (nI i)), (3, .int (nI n)), (4, .ref ou), (5, .int (nI oa))] [] S _
  refine ks_gets (i := 5) rfl rfl kx_884 dX6_sha_0 rfl ?_
  refine ks_iconst (x := 0) dX6_sha_3 (by decide) rfl ?_
  refine ks_aload_n dX6_sha_4 rfl rfl ?_
  refine ks_getf (T := TX6) (kf := 0) kx_81 rfl in_X6 cl_X6 (by decide) hh rfl dX6_sha_5 rfl ?_
  refine ks_iconst (x := 0) dX6_sha_8 (by decide) rfl ?_
  refine ks_bipush (x := 8) dX6_sha_9 (by decide) rfl ?_
  refine ks_copyi (sp := 0) (dp := 0) (n := 8) (t := 1) rfl (fun h => by first | rfl | cases h) rfl hsB hs0 hs (by decide) (by decide) (by decide) (by decide) (fun _ => rfl) kx_886 kx_275 kx_274 kx_17 (by omega) (by decide) dX6_sha_11 rfl ?_
  refine ks_iload_n dX6_sha_14 rfl rfl ?_
  refine ks_bipush (x := 64) dX6_sha_15 (by decide) rfl ?_
  refine ks_idiv dX6_sha_17 (by decide) rfl ?_
  refine ks_bipush (x := 64) dX6_sha_18 (by decide) rfl ?_
  refine ks_imul dX6_sha_20 rfl ?_
  refine ks_ti (y := nI (n / 64 * 64)) (by rw [show (64 : Int32) = nI 64 from rfl, pk_div (by omega) (by decide) (by decide), pk_mul]) ?_
  refine ks_istore dX6_sha_21 (by decide) rfl ?_
  refine ks_sub [(6, _), (0, _), (1, _), (2, _), (3, _), (4, _), (5, _)] rfl ?_
  refine ks_iconst (x := 0) dX6_sha_23 (by decide) rfl ?_
  refine ks_istore dX6_sha_24 (by decide) rfl ?_
  refine ks_sub [(7, _), (0, _), (1, _), (2, _), (3, _), (4, _), (5, _), (6, _)] rfl ?_
  refine ks_sub _ rfl (l_shaWhole hh hs hw hl hgl hf hg hi hN ho hoa hNo hK hsB hwB n_st_wo n_la_fr n_la_ou (n / 64) 0 (by omega) _ (ks_up_set _ _ (by simp)) ⟨f, (ks_set_ne _ _ (Ne.symm n_st_wo)).trans hw⟩ _ (ks_set_same _ _ _) ?_)
  intro x hx
  show va_cpy _ _ 0 0 8 x = ks_row st_SHA_START x
  unfold va_cpy
  rw [if_pos (by omega), Nat.zero_add, Nat.sub_zero]

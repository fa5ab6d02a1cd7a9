/-! HASHER: ripe -/
def rp_msg (m : Nat → Nat) (n : Nat) : Nat → Nat := fun j => if j < n then m j else if j = n then 128 else if sh_len n ≤ j + 8 ∧ j < sh_len n then 8 * n / 256 ^ (j + 8 - sh_len n) % 256 else 0
def rp_all (p : Nat → Nat) : Nat → (Nat → Int32)
  | 0 => ks_row st_RIPE_START
  | k + 1 => rp_blk (rp_all p k) p (64 * k)
def rp_out (F : Nat → Int32) : Nat → Nat := fun j => ks_by (ks_ur (F (j / 4)) (nI (8 * (j % 4))))
/-- RIPE of the n bytes of m -/
def ripe_ (m : Nat → Nat) (n : Nat) : Nat → Nat := rp_out (rp_all (rp_msg m n) (sh_len n / 64))
theorem kO_ripe (m : Nat → Nat) (n : Nat) : kO (ripe_ m n) := fun _ => ks_by_lt _
theorem rp_out_congr {F F' : Nat → Int32} (hF : ∀ q, q < 5 → F q = F' q) {j : Nat} (hj : j < 20) : rp_out F j = rp_out F' j := by
  unfold rp_out
  rw [hF (j / 4) (by omega)]
/-- the bytes of the length -/
def rp_L (n : Nat) : Nat → Nat := fun k => 8 * n / 256 ^ k % 256
theorem kO_L (n : Nat) : kO (rp_L n) := fun _ => Nat.mod_lt _ (by decide)
theorem rp_last1 {g gl : Nat → Nat} {i n : Nat} (hr : n % 64 < 56) {F : Nat → Int32} (hF : ∀ x, x < 5 → F x = rp_all (rp_msg (fun k => g (i + k)) n) (n / 64) x) : ∀ x, x < 5 → rp_blk F (ks_pt (rp_L n) (sh_pd g gl (i + n / 64 * 64) (n % 64)) 56 8) 0 x = rp_all (rp_msg (fun k => g (i + k)) n) (sh_len n / 64) x := by
  have e0 : sh_len n = n / 64 * 64 + 64 := by unfold sh_len; omega
  have e1 : sh_len n / 64 = n / 64 + 1 := by rw [e0]; omega
  intro x hx
  rw [e1]
  show _ = rp_blk (rp_all _ (n / 64)) _ (64 * (n / 64)) x
  refine rp_blk_congr hF (fun j hj => ?_) x hx
  rw [Nat.zero_add]
  unfold ks_pt rp_msg rp_L
  rw [e0, sh_pd_at _ _ _ _ _ hj]
  by_cases h1 : j < n % 64
  · rw [if_neg (by omega), if_pos h1, if_pos (by omega)]
    congr 1
    omega
  · by_cases h2 : j = n % 64
    · rw [if_neg (by omega), if_neg h1, if_pos h2, if_neg (by omega), if_pos (by omega)]
    · by_cases h3 : 56 ≤ j
      · rw [if_pos ⟨h3, by omega⟩, if_neg (by omega), if_neg (by omega), if_pos (by omega), show 64 * (n / 64) + j + 8 - (n / 64 * 64 + 64) = j - 56 by omega]
      · rw [if_neg (by omega), if_neg h1, if_neg h2, if_neg (by omega), if_neg (by omega), if_neg (by omega)]
theorem rp_last2 {g gl : Nat → Nat} {i n : Nat} (hr : ¬ n % 64 < 56) {F : Nat → Int32} (hF : ∀ x, x < 5 → F x = rp_all (rp_msg (fun k => g (i + k)) n) (n / 64) x) : ∀ x, x < 5 → rp_blk (rp_blk F (sh_pd g gl (i + n / 64 * 64) (n % 64)) 0) (ks_pt (rp_L n) (ks_fill (sh_pd g gl (i + n / 64 * 64) (n % 64)) 0 64 0) 56 8) 0 x = rp_all (rp_msg (fun k => g (i + k)) n) (sh_len n / 64) x := by
  have e0 : sh_len n = n / 64 * 64 + 128 := by unfold sh_len; omega
  have e1 : sh_len n / 64 = n / 64 + 1 + 1 := by rw [e0]; omega
  intro x hx
  rw [e1]
  show _ = rp_blk (rp_blk (rp_all _ (n / 64)) _ (64 * (n / 64))) _ (64 * (n / 64 + 1)) x
  refine rp_blk_congr (fun y hy => rp_blk_congr hF (fun j hj => ?_) y hy) (fun j hj => ?_) x hx
  · rw [Nat.zero_add]
    unfold rp_msg
    rw [e0, sh_pd_at _ _ _ _ _ hj]
    by_cases h1 : j < n % 64
    · rw [if_pos h1, if_pos (by omega)]
      congr 1
      omega
    · by_cases h2 : j = n % 64
      · rw [if_neg h1, if_pos h2, if_neg (by omega), if_pos (by omega)]
      · rw [if_neg h1, if_neg h2, if_neg (by omega), if_neg (by omega), if_neg (by omega)]
  · rw [Nat.zero_add]
    unfold ks_pt rp_msg ks_fill rp_L
    rw [e0]
    by_cases h3 : 56 ≤ j
    · rw [if_pos ⟨h3, by omega⟩, if_neg (by omega), if_neg (by omega), if_pos (by omega), show 64 * (n / 64 + 1) + j + 8 - (n / 64 * 64 + 128) = j - 56 by omega]
    · rw [if_neg (by omega), if_pos (by omega), if_neg (by omega), if_neg (by omega), if_neg (by omega)]
set_option maxRecDepth 100000 in
set_option maxHeartbeats 40000000 in
theorem l_ripeOut {l : Launch} {G : ks_G} {d : Nat} {S : ks_S} {P : Option Value → ks_S → Prop} {h st ou No oa : Nat} {F : Nat → Int32} {go : Nat → Nat} {r1 r2 r3 r4 r5 : Value} (hh : S.2.2 h = some (.inr (9, [.ref st, r1, r2, r3, r4, r5]))) (hs : S.2.2 st = some (kI 8 F)) (ho : S.2.2 ou = some (kB No go)) (hoa : oa + 20 ≤ No) (hNo : No < 2 ^ 30) (hP : P none (ks_set S ou (kB No (ks_pt (rp_out F) go oa 20)))) : ∀ k q, q + k = 20 → ks_X l G mX6_ripe d 132 [(7, .int (nI q)), (0, .ref h), (4, .ref ou), (5, .int (nI oa))] [] (ks_set S ou (kB No (ks_pt (rp_out F) go oa q))) P := by
  have n_h_ou : h ≠ ou := Ne.symm (ks_neO ho hh)
  have n_st_ou : st ≠ ou := ks_neT hs ho (by decide)
  intro k
  induction k with
  | zero =>
    intro q hq
    refine ks_iload dX6_ripe_132 rfl rfl ?_
    refine ks_bipush (x := 20) dX6_ripe_134 (by decide) rfl ?_
    refine ks_icmp_ge (tgt := 171) dX6_ripe_136 (by decide) rfl (fun hc => ?_) (fun hc => ?_)
    · rw [show q = 20 by omega]
      refine ks_ret rfl dX6_ripe_171 ?_
      exact hP
    · exact absurd (nI_le (a := 20) (by omega) (by omega)) hc
  | succ k ih =>
    intro q hq
    refine ks_iload dX6_ripe_132 rfl rfl ?_
    refine ks_bipush (x := 20) dX6_ripe_134 (by decide) rfl ?_
    refine ks_icmp_ge (tgt := 171) dX6_ripe_136 (by decide) rfl (fun hc => ?_) (fun hc => ?_)
    · exact absurd hc (nI_ge (b := 20) (by omega) (by decide))
    · refine ks_aload dX6_ripe_139 rfl rfl ?_
      refine ks_iload dX6_ripe_141 rfl rfl ?_
      refine ks_iload dX6_ripe_143 rfl rfl ?_
      refine ks_iadd dX6_ripe_145 rfl ?_
      refine ks_aload_n dX6_ripe_146 rfl rfl ?_
      refine ks_getf (T := TX6) (kf := 0) kx_81 rfl in_X6 cl_X6 (by decide) ((ks_set_ne _ _ n_h_ou).trans hh) rfl dX6_ripe_147 rfl ?_
      refine ks_iload dX6_ripe_150 rfl rfl ?_
      refine ks_iconst (x := 4) dX6_ripe_152 (by decide) rfl ?_
      refine ks_idiv dX6_ripe_153 (by decide) rfl ?_
      refine ks_ialdN ((ks_set_ne _ _ n_st_ou).trans hs) (i := q / 4) (pk_div (a := q) (d := 4) (by omega) (by decide) (by decide)) (by omega) (by decide) dX6_ripe_154 rfl ?_
      refine ks_bipush (x := 8) dX6_ripe_155 (by decide) rfl ?_
      refine ks_iload dX6_ripe_157 rfl rfl ?_
      refine ks_iconst (x := 4) dX6_ripe_159 (by decide) rfl ?_
      refine ks_irem dX6_ripe_160 (by decide) rfl ?_
      refine ks_imul dX6_ripe_161 rfl ?_
      refine ks_ti (y := nI (8 * (q % 4))) (by rw [show (4 : Int32) = nI 4 from rfl, pk_rem (d := 4) (by omega) (by decide) (by decide), show (8 : Int32) = nI 8 from rfl, pk_mul]) ?_
      refine ks_iushr dX6_ripe_162 rfl ?_
      refine ks_i2b dX6_ripe_163 rfl ?_
      refine ks_bastB (ks_set_same _ _ _) (nI_add oa q) (by omega) (by omega) (c := rp_out F q) (by rw [ks_by_i8]; rfl) dX6_ripe_164 rfl ?_
      refine ks_iinc (y := nI (q + 1)) dX6_ripe_165 rfl (ks_p1 q) (by decide) rfl ?_
      refine ks_goto (tgt := 132) dX6_ripe_168 (by decide) ?_
      refine ks_tS (by rw [ks_set_set, ks_pt_s]) ?_
      exact ks_sub _ rfl (ih (q + 1) (by omega))
set_option maxRecDepth 100000 in
set_option maxHeartbeats 40000000 in
theorem l_ripeEnd {l : Launch} {G : ks_G} {d : Nat} {S : ks_S} {P : Option Value → ks_S → Prop} {h st wo si la ou No oa n : Nat} {F f fs : Nat → Int32} {gl go : Nat → Nat} {r4 r5 : Value} (hh : S.2.2 h = some (.inr (9, [.ref st, .ref wo, .ref si, .ref la, r4, r5]))) (hs : S.2.2 st = some (kI 8 F)) (hw : S.2.2 wo = some (kI 64 f)) (hsi : S.2.2 si = some (kI 10 fs)) (hl : S.2.2 la = some (kB 64 gl)) (hgl : kO gl) (ho : S.2.2 ou = some (kB No go)) (hoa : oa + 20 ≤ No) (hNo : No < 2 ^ 30) (hn : n < 2 ^ 28) (hK : ks_stOK S) (hsB : st < ks_B) (hwB : wo < ks_B) (hiB : si < ks_B) (n_st_wo : st ≠ wo) (n_st_si : st ≠ si) (n_wo_si : wo ≠ si) (n_la_ou : la ≠ ou) (hP : ∀ S', ks_up S S' [wo, si, st, la, ou] → (∃ w2, S'.2.2 wo = some (kI 64 w2)) → (∃ s2, S'.2.2 si = some (kI 10 s2)) → (∃ F2, S'.2.2 st = some (kI 8 F2)) → S'.2.2 la = some (kB 64 (ks_pt (rp_L n) gl 56 8)) → S'.2.2 ou = some (kB No (ks_pt (rp_out (rp_blk F (ks_pt (rp_L n) gl 56 8) 0)) go oa 20)) → P none S') : ∀ k q, q + k = 8 → ks_X l G mX6_ripe (d + 2) 83 [(7, .int (nI q)), (0, .ref h), (3, .int (nI n)), (4, .ref ou), (5, .int (nI oa))] [] (ks_set S la (kB 64 (ks_pt (rp_L n) gl 56 q))) P := by
  have n_h_la : h ≠ la := Ne.symm (ks_neO hl hh)
  have n_st_la : st ≠ la := ks_neT hs hl (by decide)
  have n_wo_la : wo ≠ la := ks_neT hw hl (by decide)
  have n_si_la : si ≠ la := ks_neT hsi hl (by decide)
  have n_ou_la : ou ≠ la := Ne.symm n_la_ou
  have n_h_st : h ≠ st := Ne.symm (ks_neO hs hh)
  have n_h_wo : h ≠ wo := Ne.symm (ks_neO hw hh)
  have n_h_si : h ≠ si := Ne.symm (ks_neO hsi hh)
  have n_wo_ou : wo ≠ ou := ks_neT hw ho (by decide)
  have n_si_ou : si ≠ ou := ks_neT hsi ho (by decide)
  have n_st_ou : st ≠ ou := ks_neT hs ho (by decide)
  intro k
  induction k with
  | zero =>
    intro q hq
    refine ks_iload dX6_ripe_83 rfl rfl ?_
    refine ks_bipush (x := 8) dX6_ripe_85 (by decide) rfl ?_
    refine ks_icmp_ge (tgt := 120) dX6_ripe_87 (by decide) rfl (fun hc => ?_) (fun hc => ?_)
    · rw [show q = 8 by omega]
      have hk8 : kO (ks_pt (rp_L n) gl 56 8) := kO_pt (kO_L n) hgl _ _
      refine ks_aload_n dX6_ripe_120 rfl rfl ?_
      refine ks_aload_n dX6_ripe_121 rfl rfl ?_
      refine ks_getf (T := TX6) (kf := 3) kx_84 rfl in_X6 cl_X6 (by decide) ((ks_set_ne _ _ n_h_la).trans hh) rfl dX6_ripe_122 rfl ?_
      refine ks_iconst (x := 0) dX6_ripe_125 (by decide) rfl ?_
      refine ks_callV (n := 2) (M' := mX6_ripeBlock) (c_ripeBlock (i := 0) (N := 64) ((ks_set_ne _ _ n_h_la).trans hh) ((ks_set_ne _ _ n_st_la).trans hs) ((ks_set_ne _ _ n_wo_la).trans hw) ((ks_set_ne _ _ n_si_la).trans hsi) (ks_set_same _ _ _) hk8 (by decide) (by decide) (fun i q hq => (ks_set_ne _ _ (ks_neT (hK i q hq) hl (by decide))).trans (hK i q hq)) hsB hwB hiB n_st_wo n_st_si n_wo_si) ((ks_set_ne _ _ n_h_la).trans hh) cl_X6 rfl kx_1228 kx_1230 kxp_19 kx_3 kx_1231 (by decide +kernel) rfl (by decide) (Nat.le_of_ble_eq_true rfl) rfl dX6_ripe_126 rfl (fun r1 S1 h1 => ?_)
      obtain ⟨rfl, hu, ⟨w2, hw2⟩, ⟨s2, hsi2⟩, hs2⟩ := h1
      have hu2 : ks_up S S1 [wo, si, st, la, ou] := (ks_up_set S _ (by simp)).trans (hu.mono (by simp))
      have hh2 := hu.at ((ks_set_ne (a := la) _ (kB 64 (ks_pt (rp_L n) gl 56 8)) n_h_la).trans hh) (by simp [n_h_wo, n_h_st, n_h_si])
      have hl2 := hu.at (ks_set_same S la (kB 64 (ks_pt (rp_L n) gl 56 8))) (by simp [Ne.symm n_wo_la, Ne.symm n_st_la, Ne.symm n_si_la])
      have ho2 := hu.at ((ks_set_ne (a := la) _ (kB 64 (ks_pt (rp_L n) gl 56 8)) n_ou_la).trans ho) (by simp [Ne.symm n_wo_ou, Ne.symm n_st_ou, Ne.symm n_si_ou])
      refine ks_iconst (x := 0) dX6_ripe_129 (by decide) rfl ?_
      refine ks_istore dX6_ripe_130 (by decide) rfl ?_
      refine ks_sub [(7, _), (0, _), (3, _), (4, _), (5, _)] rfl ?_
      have h9 := l_ripeOut (l := l) (G := G) (d := d + 2) (S := S1) (P := P) hh2 hs2 ho2 hoa hNo (hP _ (hu2.trans (ks_up_set _ _ (by simp))) ⟨w2, (ks_set_ne _ _ n_wo_ou).trans hw2⟩ ⟨s2, (ks_set_ne _ _ n_si_ou).trans hsi2⟩ ⟨_, (ks_set_ne _ _ n_st_ou).trans hs2⟩ ((ks_set_ne _ _ n_la_ou).trans hl2) (ks_set_same _ _ _)) 20 0 rfl
      rw [ks_pt_0, ks_set_id _ ho2] at h9
      exact ks_sub _ rfl h9
    · exact absurd (nI_le (a := 8) (by omega) (by omega)) hc
  | succ k ih =>
    intro q hq
    refine ks_iload dX6_ripe_83 rfl rfl ?_
    refine ks_bipush (x := 8) dX6_ripe_85 (by decide) rfl ?_
    refine ks_icmp_ge (tgt := 120) dX6_ripe_87 (by decide) rfl (fun hc => ?_) (fun hc => ?_)
    · exact absurd hc (nI_ge (b := 8) (by omega) (by decide))
    · refine ks_aload_n dX6_ripe_90 rfl rfl ?_
      refine ks_getf (T := TX6) (kf := 3) kx_84 rfl in_X6 cl_X6 (by decide) ((ks_set_ne _ _ n_h_la).trans hh) rfl dX6_ripe_91 rfl ?_
      refine ks_bipush (x := 56) dX6_ripe_94 (by decide) rfl ?_
      refine ks_iload dX6_ripe_96 rfl rfl ?_
      refine ks_iadd dX6_ripe_98 rfl ?_
      refine ks_ldc2 dX6_ripe_99 kx_903 rfl ?_
      refine ks_iload_n dX6_ripe_102 rfl rfl ?_
      refine ks_i2l dX6_ripe_103 rfl ?_
      refine ks_lmul dX6_ripe_104 rfl ?_
      refine ks_bipush (x := 8) dX6_ripe_105 (by decide) rfl ?_
      refine ks_iload dX6_ripe_107 rfl rfl ?_
      refine ks_imul dX6_ripe_109 rfl ?_
      refine ks_lushr dX6_ripe_110 rfl ?_
      refine ks_l2i dX6_ripe_111 rfl ?_
      refine ks_i2b dX6_ripe_112 rfl ?_
      refine ks_bastB (ks_set_same _ _ _) (nI_add 56 q) (by omega) (by decide) (c := rp_L n q) (by rw [ks_by_i8, ks_by_shr _ (by omega), show (8 : Int64) = lN 8 from rfl, nI_l (by omega), lN_mul, wb_tn (by omega)]; rfl) dX6_ripe_113 rfl ?_
      refine ks_iinc (y := nI (q + 1)) dX6_ripe_114 rfl (ks_p1 q) (by decide) rfl ?_
      refine ks_goto (tgt := 83) dX6_ripe_117 (by decide) ?_
      refine ks_tS (by rw [ks_set_set, ks_pt_s]) ?_
      exact ks_sub _ rfl (ih (q + 1) (by omega))
def ripe_P (S : ks_S) (st wo si la ou No i oa n : Nat) (g go : Nat → Nat) : Option Value → ks_S → Prop := (fun z S' => z = none ∧ ks_up S S' [wo, si, st, la, ou] ∧ (∃ w2, S'.2.2 wo = some (kI 64 w2)) ∧ (∃ s2, S'.2.2 si = some (kI 10 s2)) ∧ (∃ F2, S'.2.2 st = some (kI 8 F2)) ∧ (∃ g2, kO g2 ∧ S'.2.2 la = some (kB 64 g2)) ∧ S'.2.2 ou = some (kB No (ks_pt (ripe_ (fun k => g (i + k)) n) go oa 20)))
set_option maxRecDepth 100000 in
set_option maxHeartbeats 40000000 in
theorem l_ripeWhole {l : Launch} {G : ks_G} {d : Nat} {S : ks_S} {h st wo si la fr ou N No i oa n : Nat} {F f fs : Nat → Int32} {g gl go : Nat → Nat} {r4 r5 : Value} (hh : S.2.2 h = some (.inr (9, [.ref st, .ref wo, .ref si, .ref la, r4, r5]))) (hs : S.2.2 st = some (kI 8 F)) (hw : S.2.2 wo = some (kI 64 f)) (hsi : S.2.2 si = some (kI 10 fs)) (hl : S.2.2 la = some (kB 64 gl)) (hgl : kO gl) (hf : S.2.2 fr = some (kB N g)) (hg : kO g) (hi : i + n ≤ N) (hN : N < 2 ^ 28) (ho : S.2.2 ou = some (kB No go)) (hoa : oa + 20 ≤ No) (hNo : No < 2 ^ 30) (hK : ks_stOK S) (hsB : st < ks_B) (hwB : wo < ks_B) (hiB : si < ks_B) (n_st_wo : st ≠ wo) (n_st_si : st ≠ si) (n_wo_si : wo ≠ si) (n_la_fr : la ≠ fr) (n_la_ou : la ≠ ou) : ∀ k q, q + k = n / 64 → ∀ S1, ks_up S S1 [wo, si, st] → (∃ w2, S1.2.2 wo = some (kI 64 w2)) → (∃ s2, S1.2.2 si = some (kI 10 s2)) → ∀ F1, S1.2.2 st = some (kI 8 F1) → (∀ x, x < 5 → F1 x = rp_all (rp_msg (fun k => g (i + k)) n) q x) → ks_X l G mX6_ripe (d + 3) 25 [(7, .int (nI (64 * q))), (6, .int (nI (n / 64 * 64))), (0, .ref h), (1, .ref fr), (2, .int (nI i)), (3, .int (nI n)), (4, .ref ou), (5, .int (nI oa))] [] S1 (ripe_P S st wo si la ou No i oa n g go) := by
  have n_h_la : h ≠ la := Ne.symm (ks_neO hl hh)
  have n_st_la : st ≠ la := ks_neT hs hl (by decide)
  have n_wo_la : wo ≠ la := ks_neT hw hl (by decide)
  have n_si_la : si ≠ la := ks_neT hsi hl (by decide)
  have n_h_st : h ≠ st := Ne.symm (ks_neO hs hh)
  have n_h_wo : h ≠ wo := Ne.symm (ks_neO hw hh)
  have n_h_si : h ≠ si := Ne.symm (ks_neO hsi hh)
  have n_fr_st : fr ≠ st := ks_neT hf hs (by decide)
  have n_fr_wo : fr ≠ wo := ks_neT hf hw (by decide)
  have n_fr_si : fr ≠ si := ks_neT hf hsi (by decide)
  have n_ou_st : ou ≠ st := ks_neT ho hs (by decide)
  have n_ou_wo : ou ≠ wo := ks_neT ho hw (by decide)
  have n_ou_si : ou ≠ si := ks_neT ho hsi (by decide)
  intro k
  induction k with
  | zero =>
    intro q hq S1 hu ⟨w2, hw1⟩ ⟨s2, hsi1⟩ F1 hs1 hF
    have hh1 := hu.at hh (by simp [n_h_wo, n_h_st, n_h_si])
    have hl1 := hu.at hl (by simp [Ne.symm n_wo_la, Ne.symm n_st_la, Ne.symm n_si_la])
    have hf1 := hu.at hf (by simp [n_fr_wo, n_fr_st, n_fr_si])
    have ho1 := hu.at ho (by simp [n_ou_wo, n_ou_st, n_ou_si])
    have hK1 := hu.st hK (by simp [hsB, hwB, hiB])
    refine ks_iload dX6_ripe_25 rfl rfl ?_
    refine ks_iload dX6_ripe_27 rfl rfl ?_
    refine ks_icmp_ge (tgt := 47) dX6_ripe_29 (by decide) rfl (fun hc => ?_) (fun hc => ?_)
    · refine ks_aload_n dX6_ripe_47 rfl rfl ?_
      refine ks_aload_n dX6_ripe_48 rfl rfl ?_
      refine ks_iload_n dX6_ripe_49 rfl rfl ?_
      refine ks_iload dX6_ripe_50 rfl rfl ?_
      refine ks_iadd dX6_ripe_52 rfl ?_
      refine ks_ti (y := nI (i + n / 64 * 64)) (nI_add i _) ?_
      refine ks_iload_n dX6_ripe_53 rfl rfl ?_
      refine ks_iload dX6_ripe_54 rfl rfl ?_
      refine ks_isub dX6_ripe_56 rfl ?_
      refine ks_ti (y := nI (n % 64)) (by rw [pk_sub (by omega)]; congr 1; omega) ?_
      refine ks_callV (n := 3) (M' := mX6_pad) (c_pad (d := d) hh1 hl1 hf1 (by omega) (Nat.mod_lt _ (by decide)) (by omega)) hh1 cl_X6 rfl kx_893 kx_895 kxp_9 kx_3 kx_896 (by decide +kernel) rfl (by decide) (Nat.le_of_ble_eq_true rfl) rfl dX6_ripe_57 rfl (fun r2 S2 h2 => ?_)
      obtain ⟨rfl, rfl⟩ := h2
      have hu2 : ks_up S (ks_set S1 la (kB 64 (sh_pd g gl (i + n / 64 * 64) (n % 64)))) [wo, si, st, la, ou] := (hu.mono (by simp)).trans (ks_up_set _ _ (by simp))
      have hkp : kO (sh_pd g gl (i + n / 64 * 64) (n % 64)) := kO_pd hg hgl _ _
      have hK2 : ks_stOK (ks_set S1 la (kB 64 (sh_pd g gl (i + n / 64 * 64) (n % 64)))) := fun i q hq => (ks_set_ne _ _ (ks_neT (hK1 i q hq) hl1 (by decide))).trans (hK1 i q hq)
      have hh2 := (ks_set_ne (a := la) S1 (kB 64 (sh_pd g gl (i + n / 64 * 64) (n % 64))) n_h_la).trans hh1
      have hs2 := (ks_set_ne (a := la) S1 (kB 64 (sh_pd g gl (i + n / 64 * 64) (n % 64))) n_st_la).trans hs1
      have hw2 := (ks_set_ne (a := la) S1 (kB 64 (sh_pd g gl (i + n / 64 * 64) (n % 64))) n_wo_la).trans hw1
      have hsi2 := (ks_set_ne (a := la) S1 (kB 64 (sh_pd g gl (i + n / 64 * 64) (n % 64))) n_si_la).trans hsi1
      have ho2 := (ks_set_ne (a := la) S1 (kB 64 (sh_pd g gl (i + n / 64 * 64) (n % 64))) (Ne.symm n_la_ou)).trans ho1
      have hl2 := ks_set_same S1 la (kB 64 (sh_pd g gl (i + n / 64 * 64) (n % 64)))
      generalize ks_set S1 la (kB 64 (sh_pd g gl (i + n / 64 * 64) (n % 64))) = S2 at hu2 hK2 hh2 hs2 hw2 hsi2 hl2 ho2 ⊢
      refine ks_if_ne (tgt := 80) dX6_ripe_60 (by decide) rfl (fun hc2 => ?_) (fun hc2 => ?_)
      · have hr : n % 64 < 56 := Nat.lt_of_not_le (fun hz => hc2 (by rw [if_neg (by omega)]))
        refine ks_iconst (x := 0) dX6_ripe_80 (by decide) rfl ?_
        refine ks_istore dX6_ripe_81 (by decide) rfl ?_
        refine ks_sub [(7, _), (6, _), (0, _), (1, _), (2, _), (3, _), (4, _), (5, _)] rfl ?_
        have h9 := l_ripeEnd (l := l) (G := G) (d := d + 1) (P := (ripe_P S st wo si la ou No i oa n g go)) hh2 hs2 hw2 hsi2 hl2 hkp ho2 hoa hNo (n := n) (by omega) hK2 hsB hwB hiB n_st_wo n_st_si n_wo_si n_la_ou (fun S' q1 q2 q6 q3 q4 q5 => ⟨rfl, hu2.trans q1, q2, q6, q3, ⟨_, kO_pt (kO_L n) hkp _ _, q4⟩, by rw [q5, ks_pt_congr _ _ _ (fun j hj => rp_out_congr (rp_last1 hr (by rw [show n / 64 = q by omega]; exact hF)) hj)]; rfl⟩) 8 0 rfl
        rw [ks_pt_0, ks_set_id _ hl2] at h9
        exact ks_sub _ rfl h9
      · have hr : ¬ n % 64 < 56 := fun hz => by rw [if_pos hz] at hc2; exact absurd hc2 (by decide)
        refine ks_aload_n dX6_ripe_63 rfl rfl ?_
        refine ks_aload_n dX6_ripe_64 rfl rfl ?_
        refine ks_getf (T := TX6) (kf := 3) kx_84 rfl in_X6 cl_X6 (by decide) hh2 rfl dX6_ripe_65 rfl ?_
        refine ks_iconst (x := 0) dX6_ripe_68 (by decide) rfl ?_
        refine ks_callV (n := 2) (M' := mX6_ripeBlock) (c_ripeBlock (i := 0) hh2 hs2 hw2 hsi2 hl2 hkp (by decide) (by decide) hK2 hsB hwB hiB n_st_wo n_st_si n_wo_si) hh2 cl_X6 rfl kx_1228 kx_1230 kxp_19 kx_3 kx_1231 (by decide +kernel) rfl (by decide) (Nat.le_of_ble_eq_true rfl) rfl dX6_ripe_69 rfl (fun r3 S3 h3 => ?_)
        obtain ⟨rfl, hu3, ⟨w3, hw3⟩, ⟨s3, hsi3⟩, hs3⟩ := h3
        have hh3 := hu3.at hh2 (by simp [n_h_wo, n_h_st, n_h_si])
        have hl3 := hu3.at hl2 (by simp [Ne.symm n_wo_la, Ne.symm n_st_la, Ne.symm n_si_la])
        have ho3 := hu3.at ho2 (by simp [n_ou_wo, n_ou_st, n_ou_si])
        have hK3 := hu3.st hK2 (by simp [hsB, hwB, hiB])
        refine ks_aload_n dX6_ripe_72 rfl rfl ?_
        refine ks_getf (T := TX6) (kf := 3) kx_84 rfl in_X6 cl_X6 (by decide) hh3 rfl dX6_ripe_73 rfl ?_
        refine ks_iconst (x := 0) dX6_ripe_76 (by decide) rfl ?_
        refine ks_callS (n := 2) (M' := mJ7_fill_031fb) (c_fillB (x := 0) hl3 (by decide)) kx_900 kx_901 kx_6 kx_902 (by decide +kernel) rfl (by decide) (Nat.le_of_ble_eq_true rfl) rfl dX6_ripe_77 rfl (fun r4 S4 h4 => ?_)
        obtain ⟨rfl, rfl⟩ := h4
        refine ks_iconst (x := 0) dX6_ripe_80 (by decide) rfl ?_
        refine ks_istore dX6_ripe_81 (by decide) rfl ?_
        refine ks_sub [(7, _), (6, _), (0, _), (1, _), (2, _), (3, _), (4, _), (5, _)] rfl ?_
        have hk4 : kO (ks_fill (sh_pd g gl (i + n / 64 * 64) (n % 64)) 0 64 0) := kO_fill hkp 0 64 (by decide)
        have h9 := l_ripeEnd (l := l) (G := G) (d := d + 1) (P := (ripe_P S st wo si la ou No i oa n g go)) (S := ks_set S3 la (kB 64 (ks_fill (sh_pd g gl (i + n / 64 * 64) (n % 64)) 0 64 0))) ((ks_set_ne _ _ n_h_la).trans hh3) ((ks_set_ne _ _ n_st_la).trans hs3) ((ks_set_ne _ _ n_wo_la).trans hw3) ((ks_set_ne _ _ n_si_la).trans hsi3) (ks_set_same _ _ _) hk4 ((ks_set_ne _ _ (Ne.symm n_la_ou)).trans ho3) hoa hNo (n := n) (by omega) (fun i q hq => (ks_set_ne _ _ (ks_neT (hK3 i q hq) hl3 (by decide))).trans (hK3 i q hq)) hsB hwB hiB n_st_wo n_st_si n_wo_si n_la_ou (fun S' q1 q2 q6 q3 q4 q5 => ⟨rfl, ((hu2.trans (hu3.mono (by simp))).trans (ks_up_set _ _ (by simp))).trans q1, q2, q6, q3, ⟨_, kO_pt (kO_L n) hk4 _ _, q4⟩, by rw [q5, ks_pt_congr _ _ _ (fun j hj => rp_out_congr (rp_last2 hr (by rw [show n / 64 = q by omega]; exact hF)) hj)]; rfl⟩) 8 0 rfl
        rw [ks_pt_0, ks_set_set] at h9
        exact ks_sub _ rfl h9
    · exact absurd (nI_le (by omega) (by omega)) hc
  | succ k ih =>
    intro q hq S1 hu ⟨w2, hw1⟩ ⟨s2, hsi1⟩ F1 hs1 hF
    have hh1 := hu.at hh (by simp [n_h_wo, n_h_st, n_h_si])
    have hf1 := hu.at hf (by simp [n_fr_wo, n_fr_st, n_fr_si])
    have hK1 := hu.st hK (by simp [hsB, hwB, hiB])
    refine ks_iload dX6_ripe_25 rfl rfl ?_
    refine ks_iload dX6_ripe_27 rfl rfl ?_
    refine ks_icmp_ge (tgt := 47) dX6_ripe_29 (by decide) rfl (fun hc => ?_) (fun hc => ?_)
    · exact absurd hc (nI_ge (by omega) (by omega))
    · refine ks_aload_n dX6_ripe_32 rfl rfl ?_
      refine ks_aload_n dX6_ripe_33 rfl rfl ?_
      refine ks_iload_n dX6_ripe_34 rfl rfl ?_
      refine ks_iload dX6_ripe_35 rfl rfl ?_
      refine ks_iadd dX6_ripe_37 rfl ?_
      refine ks_ti (y := nI (i + 64 * q)) (nI_add i _) ?_
      refine ks_callV (n := 2) (M' := mX6_ripeBlock) (c_ripeBlock hh1 hs1 hw1 hsi1 hf1 hg (by omega) (by omega) hK1 hsB hwB hiB n_st_wo n_st_si n_wo_si) hh1 cl_X6 rfl kx_1228 kx_1230 kxp_19 kx_3 kx_1231 (by decide +kernel) rfl (by decide) (Nat.le_of_ble_eq_true rfl) rfl dX6_ripe_38 rfl (fun r2 S2 h2 => ?_)
      obtain ⟨rfl, hu2, hw2, hsi2, hs2⟩ := h2
      refine ks_iinc (y := nI (64 * (q + 1))) dX6_ripe_41 rfl (nI_add (64 * q) 64) (by decide) rfl ?_
      refine ks_goto (tgt := 25) dX6_ripe_44 (by decide) ?_
      refine ks_sub _ rfl (ih (q + 1) (by omega) S2 (hu.trans hu2) hw2 hsi2 _ hs2 ?_)
      intro x hx
      refine rp_blk_congr hF (fun j hj => ?_) x hx
      unfold rp_msg
      rw [if_pos (by omega)]
      congr 1
      omega
set_option maxRecDepth 100000 in
set_option maxHeartbeats 40000000 in
theorem c_ripe {l : Launch} {G : ks_G} {d : Nat} {S : ks_S} {h st wo si la fr ou N No i oa n : Nat} {F f fs : Nat → Int32} {g gl go : Nat → Nat} {r4 r5 : Value} (hh : S.2.2 h = some (.inr (9, [.ref st, .ref wo, .ref si, .ref la, r4, r5]))) (hs : S.2.2 st = some (kI 8 F)) (hw : S.2.2 wo = some (kI 64 f)) (hsi : S.2.2 si = some (kI 10 fs)) (hl : S.2.2 la = some (kB 64 gl)) (hgl : kO gl) (hf : S.2.2 fr = some (kB N g)) (hg : kO g) (hi : i + n ≤ N) (hN : N < 2 ^ 28) (ho : S.2.2 ou = some (kB No go)) (hoa : oa + 20 ≤ No) (hNo : No < 2 ^ 30) (hK : ks_stOK S) (hsB : st < ks_B) (hwB : wo < ks_B) (hiB : si < ks_B) (n_st_wo : st ≠ wo) (n_st_si : st ≠ si) (n_wo_si : wo ≠ si) (n_la_fr : la ≠ fr) (n_la_ou : la ≠ ou) : ks_P l G yX6_ripe mX6_ripe (d + 3) [.ref h, .ref fr, .int (nI i), .int (nI n), .ref ou, .int (nI oa)] S (ripe_P S st wo si la ou No i oa n g go) := by
  have n_h_st : h ≠ st := Ne.symm (ks_neO hs hh)
  have n_K7_st : ks_B + 7 ≠ st := by omega
  have hs0 := hK 7 _ rfl
  refine ks_of (by decide) rfl rfl (Nat.le_of_ble_eq_true rfl) ?_
  show ks_X l G mX6_ripe (d + 3) 0 [(0, .ref h), (1, .ref fr), (2, .int (nI i)), (3, .int (nI n)), (4, .ref ou), (5, .int (nI oa))] [] S _
  refine ks_gets (i := 7) rfl rfl kx_1226 dX6_ripe_0 rfl ?_
  refine ks_iconst (x := 0) dX6_ripe_3 (by decide) rfl ?_
  refine ks_aload_n dX6_ripe_4 rfl rfl ?_
  refine ks_getf (T := TX6) (kf := 0) kx_81 rfl in_X6 cl_X6 (by decide) hh rfl dX6_ripe_5 rfl ?_
  refine ks_iconst (x := 0) dX6_ripe_8 (by decide) rfl ?_
  refine ks_iconst (x := 5) dX6_ripe_9 (by decide) rfl ?_
  refine ks_copyi (sp := 0) (dp := 0) (n := 5) (t := 1) rfl (fun h => by first | rfl | cases h) rfl hsB hs0 hs (by decide) (by decide) (by decide) (by decide) (fun _ => rfl) kx_886 kx_275 kx_274 kx_17 (by omega) (Nat.le_of_ble_eq_true rfl) dX6_ripe_10 rfl ?_
  refine ks_iload_n dX6_ripe_13 rfl rfl ?_
  refine ks_bipush (x := 64) dX6_ripe_14 (by decide) rfl ?_
  refine ks_idiv dX6_ripe_16 (by decide) rfl ?_
  refine ks_bipush (x := 64) dX6_ripe_17 (by decide) rfl ?_
  refine ks_imul dX6_ripe_19 rfl ?_
  refine ks_ti (y := nI (n / 64 * 64)) (by rw [show (64 : Int32) = nI 64 from rfl, pk_div (by omega) (by decide) (by decide), pk_mul]) ?_
  refine ks_istore dX6_ripe_20 (by decide) rfl ?_
  refine ks_sub [(6, _), (0, _), (1, _), (2, _), (3, _), (4, _), (5, _)] rfl ?_
  refine ks_iconst (x := 0) dX6_ripe_22 (by decide) rfl ?_
  refine ks_istore dX6_ripe_23 (by decide) rfl ?_
  refine ks_sub [(7, _), (0, _), (1, _), (2, _), (3, _), (4, _), (5, _), (6, _)] rfl ?_
  refine ks_sub _ rfl (l_ripeWhole hh hs hw hsi hl hgl hf hg hi hN ho hoa hNo hK hsB hwB hiB n_st_wo n_st_si n_wo_si n_la_fr n_la_ou (n / 64) 0 (by omega) _ (ks_up_set _ _ (by simp)) ⟨f, (ks_set_ne _ _ (Ne.symm n_st_wo)).trans hw⟩ ⟨fs, (ks_set_ne _ _ (Ne.symm n_st_si)).trans hsi⟩ _ (ks_set_same _ _ _) ?_)
  intro x hx
  show va_cpy _ _ 0 0 5 x = ks_row st_RIPE_START x
  unfold va_cpy
  rw [if_pos (by omega), Nat.zero_add, Nat.sub_zero]

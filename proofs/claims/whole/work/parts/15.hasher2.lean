/-! HASHER: pad, sha -/
/-- the bytes D laid from i on, so far q of them -/
def ks_pt (D g : Nat → Nat) (i q : Nat) : Nat → Nat := fun j => if i ≤ j ∧ j < i + q then D (j - i) else g j
theorem ks_pt_0 (D g : Nat → Nat) (i : Nat) : ks_pt D g i 0 = g := by
  funext j
  unfold ks_pt
  rw [if_neg (by omega)]
theorem ks_pt_s (D g : Nat → Nat) (i q : Nat) : va_up (ks_pt D g i q) (i + q) (D q) = ks_pt D g i (q + 1) := by
  funext j
  unfold va_up ks_pt
  by_cases h : j = i + q
  · subst h
    rw [if_pos rfl, if_pos (by omega), Nat.add_sub_cancel_left]
  · rw [if_neg h]
    by_cases h2 : i ≤ j ∧ j < i + q
    · rw [if_pos h2, if_pos (by omega)]
    · rw [if_neg h2, if_neg (by omega)]
theorem kO_pt {D g : Nat → Nat} (hD : kO D) (hg : kO g) (i q : Nat) : kO (ks_pt D g i q) := fun j => by
  unfold ks_pt
  by_cases h : i ≤ j ∧ j < i + q <;> simp [h, hD _, hg j]
/-- a last block: the rest of a message, 128, zeros -/
def sh_pd (g gl : Nat → Nat) (i r : Nat) : Nat → Nat := va_up (ks_fill (va_cpy g gl i 0 r) r 64 0) r 128
theorem kO_pd {g gl : Nat → Nat} (hg : kO g) (hl : kO gl) (i r : Nat) : kO (sh_pd g gl i r) := kO_up (kO_fill (kO_cpy hg hl _ _ _) _ _ (by decide)) (by decide)
theorem sh_pd_at (g gl : Nat → Nat) (i r j : Nat) (hj : j < 64) : sh_pd g gl i r j = if j < r then g (i + j) else if j = r then 128 else 0 := by
  unfold sh_pd va_up ks_fill va_cpy
  by_cases h1 : j = r
  · subst h1
    simp
  · by_cases h2 : j < r
    · have h3 : ¬ r ≤ j := by omega
      simp [h1, h2, h3]
    · have h3 : r ≤ j := by omega
      simp [h1, h2, h3, hj]
set_option maxRecDepth 100000 in
set_option maxHeartbeats 40000000 in
theorem c_pad {l : Launch} {G : ks_G} {d : Nat} {S : ks_S} {h la fr N i r : Nat} {g gl : Nat → Nat} {r0 r1 r2 r4 r5 : Value} (hh : S.2.2 h = some (.inr (9, [r0, r1, r2, .ref la, r4, r5]))) (hl : S.2.2 la = some (kB 64 gl)) (hf : S.2.2 fr = some (kB N g)) (hi : i + r ≤ N) (hr : r < 64) (hN : N < 2 ^ 30) : ks_P l G yX6_pad mX6_pad (d + 2) [.ref h, .ref fr, .int (nI i), .int (nI r)] S (fun z S' => z = some (.int (if r < 56 then 1 else 0)) ∧ S' = ks_set S la (kB 64 (sh_pd g gl i r))) := by
  have n_h_la : h ≠ la := ks_ne hh hl (by intro e; cases e)
  refine ks_of (by decide) rfl rfl (Nat.le_of_ble_eq_true rfl) ?_
  show ks_X l G mX6_pad (d + 2) 0 [(0, .ref h), (1, .ref fr), (2, .int (nI i)), (3, .int (nI r))] [] S _
  refine ks_aload_n dX6_pad_0 rfl rfl ?_
  refine ks_iload_n dX6_pad_1 rfl rfl ?_
  refine ks_aload_n dX6_pad_2 rfl rfl ?_
  refine ks_getf (T := TX6) (kf := 3) kx_84 rfl in_X6 cl_X6 (by decide) hh rfl dX6_pad_3 rfl ?_
  refine ks_iconst (x := 0) dX6_pad_6 (by decide) rfl ?_
  refine ks_iload_n dX6_pad_7 rfl rfl ?_
  refine ks_copyB (dp := 0) hf hl rfl rfl rfl hi (by omega) (by omega) (by decide) kx_886 kx_275 kx_274 kx_17 (by omega) (by decide) dX6_pad_8 rfl ?_
  refine ks_aload_n dX6_pad_11 rfl rfl ?_
  refine ks_getf (T := TX6) (kf := 3) kx_84 rfl in_X6 cl_X6 (by decide) ((ks_set_ne _ _ n_h_la).trans hh) rfl dX6_pad_12 rfl ?_
  refine ks_iload_n dX6_pad_15 rfl rfl ?_
  refine ks_bipush (x := 64) dX6_pad_16 (by decide) rfl ?_
  refine ks_iconst (x := 0) dX6_pad_18 (by decide) rfl ?_
  refine ks_callS (n := 4) (M' := mJ7_fill_eb02e) (c_fillBr (a := la) (j := 64) (ks_set_same _ _ _) (by omega) (by decide) (by decide)) kx_897 kx_898 kx_6 kx_899 (by decide +kernel) rfl (by decide) (by decide) rfl dX6_pad_19 rfl (fun r1 S1 h1 => ?_)
  obtain ⟨rfl, rfl⟩ := h1
  refine ks_aload_n dX6_pad_22 rfl rfl ?_
  refine ks_getf (T := TX6) (kf := 3) kx_84 rfl in_X6 cl_X6 (by decide) ((ks_set_ne _ _ n_h_la).trans ((ks_set_ne _ _ n_h_la).trans hh)) rfl dX6_pad_23 rfl ?_
  refine ks_iload_n dX6_pad_26 rfl rfl ?_
  refine ks_bipush (x := (-128)) dX6_pad_27 (by decide) rfl ?_
  refine ks_bastB (ks_set_same _ _ _) rfl hr (by decide) (show ks_by (-128) = 128 by decide) dX6_pad_29 rfl ?_
  refine ks_iload_n dX6_pad_30 rfl rfl ?_
  refine ks_bipush (x := 56) dX6_pad_31 (by decide) rfl ?_
  refine ks_icmp_ge (tgt := 40) dX6_pad_33 (by decide) rfl (fun hc => ?_) (fun hc => ?_)
  · refine ks_iconst (x := 0) dX6_pad_40 (by decide) rfl ?_
    refine ks_zret rfl rfl dX6_pad_41 ?_
    exact ⟨by rw [if_neg (fun z => absurd hc (nI_ge (b := 56) z (by decide)))], by rw [ks_set_set, ks_set_set]; rfl⟩
  · refine ks_iconst (x := 1) dX6_pad_36 (by decide) rfl ?_
    refine ks_goto (tgt := 41) dX6_pad_37 (by decide) ?_
    refine ks_zret rfl rfl dX6_pad_41 ?_
    exact ⟨by rw [if_pos (Nat.not_le.mp (fun z => hc (nI_le (a := 56) z (by omega))))], by rw [ks_set_set, ks_set_set]; rfl⟩
/-- the addresses of a hasher, apart -/
def hs_ne (h st wo si la be tr : Nat) : Prop := st < ks_B ∧ wo < ks_B ∧ si < ks_B ∧ st ≠ wo ∧ st ≠ si ∧ wo ≠ si ∧ la ≠ be ∧ la ≠ tr ∧ be ≠ tr
/-- a hasher -/
def hs_ok (S : ks_S) (h st wo si la be tr : Nat) : Prop := S.2.2 h = some (.inr (9, [.ref st, .ref wo, .ref si, .ref la, .ref be, .ref tr])) ∧ (∃ F, S.2.2 st = some (kI 8 F)) ∧ (∃ f, S.2.2 wo = some (kI 64 f)) ∧ (∃ f, S.2.2 si = some (kI 10 f)) ∧ (∃ g, kO g ∧ S.2.2 la = some (kB 64 g)) ∧ (∃ g, kO g ∧ S.2.2 be = some (kB 32 g)) ∧ (∃ g, kO g ∧ S.2.2 tr = some (kB 416 g))
theorem ks_neT {S : ks_S} {a b t t' : Nat} {A A' : vp_A} (ha : S.2.2 a = some (.inl (t, A))) (hb : S.2.2 b = some (.inl (t', A'))) (h : t ≠ t') : a ≠ b := ks_ne ha hb (fun e => h (by cases e; rfl))
theorem ks_neO {S : ks_S} {a b : Nat} {x : Nat × vp_A} {y : Nat × List Value} (ha : S.2.2 a = some (.inl x)) (hb : S.2.2 b = some (.inr y)) : a ≠ b := ks_ne ha hb (fun e => by cases e)
def sh_len (n : Nat) : Nat := (n + 72) / 64 * 64
/-- the message m of n bytes, padded -/
def sh_msg (m : Nat → Nat) (n : Nat) : Nat → Nat := fun j => if j < n then m j else if j = n then 128 else if sh_len n ≤ j + 8 ∧ j < sh_len n then 8 * n / 256 ^ (sh_len n - 1 - j) % 256 else 0
def sh_all (p : Nat → Nat) : Nat → (Nat → Int32)
  | 0 => ks_row st_SHA_START
  | k + 1 => sh_blk (sh_all p k) p (64 * k)
/-- byte j of a state, words with the highest byte first -/
def sh_out (F : Nat → Int32) : Nat → Nat := fun j => ks_by (ks_ur (F (j / 4)) (nI (24 - 8 * (j % 4))))
/-- SHA of the n bytes of m -/
def sha_ (m : Nat → Nat) (n : Nat) : Nat → Nat := sh_out (sh_all (sh_msg m n) (sh_len n / 64))
theorem kO_sha (m : Nat → Nat) (n : Nat) : kO (sha_ m n) := fun _ => ks_by_lt _
def sh_pick (t : sh_T) (q : Nat) : Int32 := match q with
  | 0 => t.1
  | 1 => t.2.1
  | 2 => t.2.2.1
  | 3 => t.2.2.2.1
  | 4 => t.2.2.2.2.1
  | 5 => t.2.2.2.2.2.1
  | 6 => t.2.2.2.2.2.2.1
  | _ => t.2.2.2.2.2.2.2
theorem sh_fin_at (F : Nat → Int32) (t : sh_T) {q : Nat} (hq : q < 8) : sh_fin F t q = F q + sh_pick t q := by
  have h : q = 0 ∨ q = 1 ∨ q = 2 ∨ q = 3 ∨ q = 4 ∨ q = 5 ∨ q = 6 ∨ q = 7 := by omega
  rcases h with rfl | rfl | rfl | rfl | rfl | rfl | rfl | rfl <;> rfl
theorem sh_blk_congr {F F' : Nat → Int32} {g g' : Nat → Nat} {i i' : Nat} (hF : ∀ q, q < 8 → F q = F' q) (hg : ∀ j, j < 64 → g (i + j) = g' (i' + j)) : ∀ q, q < 8 → sh_blk F g i q = sh_blk F' g' i' q := by
  intro q hq
  unfold sh_blk
  have e1 : sh_t F = sh_t F' := by
    unfold sh_t
    rw [hF 0 (by decide), hF 1 (by decide), hF 2 (by decide), hF 3 (by decide), hF 4 (by decide), hF 5 (by decide), hF 6 (by decide), hF 7 (by decide)]
  have e2 : ∀ j, j < 16 → sh_B g i j = sh_B g' i' j := by
    intro j hj
    unfold sh_B ks_be4
    have a0 := hg (4 * j) (by omega)
    have a1 := hg (4 * j + 1) (by omega)
    have a2 := hg (4 * j + 2) (by omega)
    have a3 := hg (4 * j + 3) (by omega)
    rw [← Nat.add_assoc, ← Nat.add_assoc] at a1 a2 a3
    rw [a0, a1, a2, a3]
  rw [sh_fin_at _ _ hq, sh_fin_at _ _ hq, hF q hq, e1, sh_rd_congr 64 (fun j hj => sh_ext_congr e2 48 j (by omega))]
theorem sh_out_congr {F F' : Nat → Int32} (hF : ∀ q, q < 8 → F q = F' q) {j : Nat} (hj : j < 32) : sh_out F j = sh_out F' j := by
  unfold sh_out
  rw [hF (j / 4) (by omega)]
set_option maxRecDepth 100000 in
set_option maxHeartbeats 40000000 in
theorem l_shaOut {l : Launch} {G : ks_G} {d : Nat} {S : ks_S} {P : Option Value → ks_S → Prop} {h st ou No oa : Nat} {F : Nat → Int32} {go : Nat → Nat} {r1 r2 r3 r4 r5 : Value} (hh : S.2.2 h = some (.inr (9, [.ref st, r1, r2, r3, r4, r5]))) (hs : S.2.2 st = some (kI 8 F)) (ho : S.2.2 ou = some (kB No go)) (hoa : oa + 32 ≤ No) (hNo : No < 2 ^ 30) (hP : P none (ks_set S ou (kB No (ks_pt (sh_out F) go oa 32)))) : ∀ k q, q + k = 32 → ks_X l G mX6_sha d 133 [(7, .int (nI q)), (0, .ref h), (4, .ref ou), (5, .int (nI oa))] [] (ks_set S ou (kB No (ks_pt (sh_out F) go oa q))) P := by
  have n_h_ou : h ≠ ou := Ne.symm (ks_neO ho hh)
  have n_st_ou : st ≠ ou := ks_neT hs ho (by decide)
  intro k
  induction k with
  | zero =>
    intro q hq
    refine ks_iload dX6_sha_133 rfl rfl ?_
    refine ks_bipush (x := 32) dX6_sha_135 (by decide) rfl ?_
    refine ks_icmp_ge (tgt := 175) dX6_sha_137 (by decide) rfl (fun hc => ?_) (fun hc => ?_)
    · rw [show q = 32 by omega]
      refine ks_ret rfl dX6_sha_175 ?_
      exact hP
    · exact absurd (nI_le (a := 32) (by omega) (by omega)) hc
  | succ k ih =>
    intro q hq
    refine ks_iload dX6_sha_133 rfl rfl ?_
    refine ks_bipush (x := 32) dX6_sha_135 (by decide) rfl ?_
    refine ks_icmp_ge (tgt := 175) dX6_sha_137 (by decide) rfl (fun hc => ?_) (fun hc => ?_)
    · exact absurd hc (nI_ge (b := 32) (by omega) (by decide))
    · refine ks_aload dX6_sha_140 rfl rfl ?_
      refine ks_iload dX6_sha_142 rfl rfl ?_
      refine ks_iload dX6_sha_144 rfl rfl ?_
      refine ks_iadd dX6_sha_146 rfl ?_
      refine ks_aload_n dX6_sha_147 rfl rfl ?_
      refine ks_getf (T := TX6) (kf := 0) kx_81 rfl in_X6 cl_X6 (by decide) ((ks_set_ne _ _ n_h_ou).trans hh) rfl dX6_sha_148 rfl ?_
      refine ks_iload dX6_sha_151 rfl rfl ?_
      refine ks_iconst (x := 4) dX6_sha_153 (by decide) rfl ?_
      refine ks_idiv dX6_sha_154 (by decide) rfl ?_
      refine ks_ialdN ((ks_set_ne _ _ n_st_ou).trans hs) (i := q / 4) (pk_div (a := q) (d := 4) (by omega) (by decide) (by decide)) (by omega) (by decide) dX6_sha_155 rfl ?_
      refine ks_bipush (x := 24) dX6_sha_156 (by decide) rfl ?_
      refine ks_bipush (x := 8) dX6_sha_158 (by decide) rfl ?_
      refine ks_iload dX6_sha_160 rfl rfl ?_
      refine ks_iconst (x := 4) dX6_sha_162 (by decide) rfl ?_
      refine ks_irem dX6_sha_163 (by decide) rfl ?_
      refine ks_imul dX6_sha_164 rfl ?_
      refine ks_isub dX6_sha_165 rfl ?_
      refine ks_ti (y := nI (24 - 8 * (q % 4))) (by rw [show (4 : Int32) = nI 4 from rfl, pk_rem (d := 4) (by omega) (by decide) (by decide), show (8 : Int32) = nI 8 from rfl, show (24 : Int32) = nI 24 from rfl, pk_mul, pk_sub (by omega)]) ?_
      refine ks_iushr dX6_sha_166 rfl ?_
      refine ks_i2b dX6_sha_167 rfl ?_
      refine ks_bastB (ks_set_same _ _ _) (nI_add oa q) (by omega) (by omega) (c := sh_out F q) (by rw [ks_by_i8]; rfl) dX6_sha_168 rfl ?_
      refine ks_iinc (y := nI (q + 1)) dX6_sha_169 rfl (ks_p1 q) (by decide) rfl ?_
      refine ks_goto (tgt := 133) dX6_sha_172 (by decide) ?_
      refine ks_tS (by rw [ks_set_set, ks_pt_s]) ?_
      exact ks_sub _ rfl (ih (q + 1) (by omega))
/-- the length laid at the end of a last block, so far q bytes of it -/
def sh_ln (gl : Nat → Nat) (n q : Nat) : Nat → Nat := fun j => if 64 ≤ j + q ∧ j < 64 then 8 * n / 256 ^ (63 - j) % 256 else gl j
theorem sh_ln_0 (gl : Nat → Nat) (n : Nat) : sh_ln gl n 0 = gl := by
  funext j
  unfold sh_ln
  rw [if_neg (by omega)]
theorem sh_ln_s (gl : Nat → Nat) (n : Nat) {q : Nat} (hq : q < 8) : va_up (sh_ln gl n q) (63 - q) (8 * n / 256 ^ q % 256) = sh_ln gl n (q + 1) := by
  funext j
  unfold va_up sh_ln
  by_cases h : j = 63 - q
  · subst h
    rw [if_pos rfl, if_pos (by omega), show 63 - (63 - q) = q by omega]
  · rw [if_neg h]
    by_cases h2 : 64 ≤ j + q ∧ j < 64
    · rw [if_pos h2, if_pos (by omega)]
    · rw [if_neg h2, if_neg (by omega)]
theorem kO_ln {gl : Nat → Nat} (h : kO gl) (n q : Nat) : kO (sh_ln gl n q) := fun j => by
  unfold sh_ln
  by_cases e : 64 ≤ j + q ∧ j < 64
  · rw [if_pos e]
    exact Nat.mod_lt _ (by decide)
  · rw [if_neg e]
    exact h j
set_option maxRecDepth 100000 in
set_option maxHeartbeats 40000000 in
theorem l_shaEnd {l : Launch} {G : ks_G} {d : Nat} {S : ks_S} {P : Option Value → ks_S → Prop} {h st wo la ou No oa n : Nat} {F f : Nat → Int32} {gl go : Nat → Nat} {r2 r4 r5 : Value} (hh : S.2.2 h = some (.inr (9, [.ref st, .ref wo, r2, .ref la, r4, r5]))) (hs : S.2.2 st = some (kI 8 F)) (hw : S.2.2 wo = some (kI 64 f)) (hl : S.2.2 la = some (kB 64 gl)) (hgl : kO gl) (ho : S.2.2 ou = some (kB No go)) (hoa : oa + 32 ≤ No) (hNo : No < 2 ^ 30) (hn : n < 2 ^ 28) (hK : ks_stOK S) (hsB : st < ks_B) (hwB : wo < ks_B) (n_st_wo : st ≠ wo) (n_la_ou : la ≠ ou) (hP : ∀ S', ks_up S S' [wo, st, la, ou] → (∃ w2, S'.2.2 wo = some (kI 64 w2)) → (∃ F2, S'.2.2 st = some (kI 8 F2)) → S'.2.2 la = some (kB 64 (sh_ln gl n 8)) → S'.2.2 ou = some (kB No (ks_pt (sh_out (sh_blk F (sh_ln gl n 8) 0)) go oa 32)) → P none S') : ∀ k q, q + k = 8 → ks_X l G mX6_sha (d + 1) 84 [(7, .int (nI q)), (0, .ref h), (3, .int (nI n)), (4, .ref ou), (5, .int (nI oa))] [] (ks_set S la (kB 64 (sh_ln gl n q))) P := by
  have n_h_la : h ≠ la := Ne.symm (ks_neO hl hh)
  have n_st_la : st ≠ la := ks_neT hs hl (by decide)
  have n_wo_la : wo ≠ la := ks_neT hw hl (by decide)
  have n_ou_la : ou ≠ la := Ne.symm n_la_ou
  have n_h_st : h ≠ st := Ne.symm (ks_neO hs hh)
  have n_h_wo : h ≠ wo := Ne.symm (ks_neO hw hh)
  have n_h_ou : h ≠ ou := Ne.symm (ks_neO ho hh)
  have n_wo_ou : wo ≠ ou := ks_neT hw ho (by decide)
  have n_st_ou : st ≠ ou := ks_neT hs ho (by decide)
  intro k
  induction k with
  | zero =>
    intro q hq
    refine ks_iload dX6_sha_84 rfl rfl ?_
    refine ks_bipush (x := 8) dX6_sha_86 (by decide) rfl ?_
    refine ks_icmp_ge (tgt := 121) dX6_sha_88 (by decide) rfl (fun hc => ?_) (fun hc => ?_)
    · rw [show q = 8 by omega]
      refine ks_aload_n dX6_sha_121 rfl rfl ?_
      refine ks_aload_n dX6_sha_122 rfl rfl ?_
      refine ks_getf (T := TX6) (kf := 3) kx_84 rfl in_X6 cl_X6 (by decide) ((ks_set_ne _ _ n_h_la).trans hh) rfl dX6_sha_123 rfl ?_
      refine ks_iconst (x := 0) dX6_sha_126 (by decide) rfl ?_
      refine ks_callV (n := 2) (M' := mX6_shaBlock) (c_shaBlock (i := 0) ((ks_set_ne _ _ n_h_la).trans hh) ((ks_set_ne _ _ n_st_la).trans hs) ((ks_set_ne _ _ n_wo_la).trans hw) (ks_set_same _ _ _) (kO_ln hgl n 8) (by decide) (by decide) (fun i q hq => (ks_set_ne _ _ (by have := ks_neT (hK i q hq) hl (by decide); exact this)).trans (hK i q hq)) hsB hwB n_st_wo) ((ks_set_ne _ _ n_h_la).trans hh) cl_X6 rfl kx_887 kx_889 kxp_8 kx_3 kx_890 (by decide +kernel) rfl (by decide) (by decide) rfl dX6_sha_127 rfl (fun r1 S1 h1 => ?_)
      obtain ⟨rfl, hu, ⟨w2, hw2⟩, hs2⟩ := h1
      have hu2 : ks_up S S1 [wo, st, la, ou] := (ks_up_set S _ (by simp)).trans (hu.mono (by simp))
      have hh2 := hu.at ((ks_set_ne (a := la) _ (kB 64 (sh_ln gl n 8)) n_h_la).trans hh) (by simp [n_h_wo, n_h_st])
      have hl2 := hu.at (ks_set_same S la (kB 64 (sh_ln gl n 8))) (by simp [Ne.symm n_wo_la, Ne.symm n_st_la])
      have ho2 := hu.at ((ks_set_ne (a := la) _ (kB 64 (sh_ln gl n 8)) n_ou_la).trans ho) (by simp [Ne.symm n_wo_ou, Ne.symm n_st_ou])
      refine ks_iconst (x := 0) dX6_sha_130 (by decide) rfl ?_
      refine ks_istore dX6_sha_131 (by decide) rfl ?_
      refine ks_sub [(7, _), (0, _), (3, _), (4, _), (5, _)] rfl ?_
      have h9 := l_shaOut (l := l) (G := G) (d := d + 1) (S := S1) (P := P) hh2 hs2 ho2 hoa hNo (hP _ (hu2.trans (ks_up_set _ _ (by simp))) ⟨w2, (ks_set_ne _ _ n_wo_ou).trans hw2⟩ ⟨_, (ks_set_ne _ _ n_st_ou).trans hs2⟩ ((ks_set_ne _ _ n_la_ou).trans hl2) (ks_set_same _ _ _)) 32 0 rfl
      rw [ks_pt_0, ks_set_id _ ho2] at h9
      exact ks_sub _ rfl h9
    · exact absurd (nI_le (a := 8) (by omega) (by omega)) hc
  | succ k ih =>
    intro q hq
    refine ks_iload dX6_sha_84 rfl rfl ?_
    refine ks_bipush (x := 8) dX6_sha_86 (by decide) rfl ?_
    refine ks_icmp_ge (tgt := 121) dX6_sha_88 (by decide) rfl (fun hc => ?_) (fun hc => ?_)
    · exact absurd hc (nI_ge (b := 8) (by omega) (by decide))
    · refine ks_aload_n dX6_sha_91 rfl rfl ?_
      refine ks_getf (T := TX6) (kf := 3) kx_84 rfl in_X6 cl_X6 (by decide) ((ks_set_ne _ _ n_h_la).trans hh) rfl dX6_sha_92 rfl ?_
      refine ks_bipush (x := 63) dX6_sha_95 (by decide) rfl ?_
      refine ks_iload dX6_sha_97 rfl rfl ?_
      refine ks_isub dX6_sha_99 rfl ?_
      refine ks_ldc2 dX6_sha_100 kx_903 rfl ?_
      refine ks_iload_n dX6_sha_103 rfl rfl ?_
      refine ks_i2l dX6_sha_104 rfl ?_
      refine ks_lmul dX6_sha_105 rfl ?_
      refine ks_bipush (x := 8) dX6_sha_106 (by decide) rfl ?_
      refine ks_iload dX6_sha_108 rfl rfl ?_
      refine ks_imul dX6_sha_110 rfl ?_
      refine ks_lushr dX6_sha_111 rfl ?_
      refine ks_l2i dX6_sha_112 rfl ?_
      refine ks_i2b dX6_sha_113 rfl ?_
      refine ks_bastB (ks_set_same _ _ _) (pk_sub (a := 63) (b := q) (by omega)) (by omega) (by decide) (c := 8 * n / 256 ^ q % 256) (by rw [ks_by_i8, ks_by_shr _ (by omega), show (8 : Int64) = lN 8 from rfl, nI_l (by omega), lN_mul, wb_tn (by omega)]) dX6_sha_114 rfl ?_
      refine ks_iinc (y := nI (q + 1)) dX6_sha_115 rfl (ks_p1 q) (by decide) rfl ?_
      refine ks_goto (tgt := 84) dX6_sha_118 (by decide) ?_
      refine ks_tS (by rw [ks_set_set, sh_ln_s gl n (by omega)]) ?_
      exact ks_sub _ rfl (ih (q + 1) (by omega))

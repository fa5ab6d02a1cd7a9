/-! THE REFERENCE: RIPE, hash160 -/
/-- the rows of RIPE -/
def mrR (S : ks_S) : Prop := S.2.2 300 = some (kI 160 (ks_row st_RIPE_ORDER)) ∧ S.2.2 301 = some (kI 160 (ks_row st_RIPE_TURNS)) ∧ S.2.2 302 = some (kI 10 (ks_row st_RIPE_WORDS)) ∧ (∃ f, S.2.2 303 = some (kI 5 f)) ∧ (∃ f, S.2.2 304 = some (kI 5 f))
theorem mrR.up {S S1 : ks_S} {L : List Nat} (h : mrR S) (hu : ks_up S S1 L) (hL : ∀ x ∈ L, x < 300 ∨ 304 < x) : mrR S1 := by
  have n : ∀ x, 300 ≤ x → x ≤ 304 → x ∉ L := fun x a b q => by have := hL x q; omega
  obtain ⟨h1, h2, h3, ⟨f, h4⟩, ⟨v, h5⟩⟩ := h
  exact ⟨hu.at h1 (n _ (by decide) (by decide)), hu.at h2 (n _ (by decide) (by decide)), hu.at h3 (n _ (by decide) (by decide)), ⟨f, hu.at h4 (n _ (by decide) (by decide))⟩, ⟨v, hu.at h5 (n _ (by decide) (by decide))⟩⟩
theorem rp_pad {g : Nat → Nat} {i n : Nat} {j : Nat} (hj : j < pdE (n - n / 64 * 64)) : pdF false g (i + n / 64 * 64) (n - n / 64 * 64) n j = rp_msg (fun k => g (i + k)) n (n / 64 * 64 + j) := by
  have e : sh_len n = n / 64 * 64 + pdE (n - n / 64 * 64) := by unfold sh_len pdE; omega
  unfold pdF rp_msg
  rw [e]
  by_cases c1 : j < n - n / 64 * 64
  · rw [if_pos c1, if_pos (by omega)]
    congr 1
    omega
  · by_cases c2 : j = n - n / 64 * 64
    · rw [if_neg c1, if_pos c2, if_neg (by omega), if_pos (by omega)]
    · by_cases c3 : pdE (n - n / 64 * 64) ≤ j + 8
      · rw [if_neg c1, if_neg c2, if_pos ⟨c3, hj⟩, if_neg (by decide), if_neg (by omega), if_neg (by omega), if_pos (by omega), show n / 64 * 64 + j + 8 - (n / 64 * 64 + pdE (n - n / 64 * 64)) = j + 8 - pdE (n - n / 64 * 64) by omega]
      · rw [if_neg c1, if_neg c2, if_neg (fun h => c3 h.1), if_neg (by omega), if_neg (by omega), if_neg (by omega)]
set_option maxRecDepth 100000 in
set_option maxHeartbeats 1600000 in
theorem c_md_ripe {l : Launch} {G : ks_G} {d : Nat} {S : ks_S} {V : Nat → Value} {fr N i n ou No oa : Nat} {g go : Nat → Nat} (hO : S.2.2 290 = some (rfE V)) (hM : mhR S) (hR : mrR S) (hf : S.2.2 fr = some (kB N g)) (kg : kO g) (hi : i + n ≤ N) (hN : N < 2 ^ 28) (ho : S.2.2 ou = some (kB No go)) (kgo : kO go) (hoa : oa + 20 ≤ No) (hNo : No < 2 ^ 28) (hfr : fr ≠ 291) (hou : ou ≠ 291) : ks_P l G yX16_ripe mX16_ripe (d + 3) [.ref 290, .ref fr, .int (nI i), .int (nI n), .ref ou, .int (nI oa)] S (fun z S' => z = none ∧ ks_up S S' [291, 292, 293, 303, 304, ou] ∧ mhR S' ∧ mrR S' ∧ S'.2.2 ou = some (kB No (ks_pt (ripe_ (fun k => g (i + k)) n) go oa 20))) := by
  obtain ⟨⟨gp, kp, h291⟩, ⟨F0, h292⟩, ⟨f0, h293⟩, h294, h295, ⟨v0, h299⟩⟩ := id hM
  obtain ⟨h300, h301, h302, ⟨a0, h303⟩, ⟨b0, h304⟩⟩ := id hR
  have fk : fr ≠ 290 ∧ fr ≠ 292 ∧ fr ≠ 293 ∧ fr ≠ 303 ∧ fr ≠ 304 := ⟨ks_neO hf hO, ks_ne hf h292 (fun e => by cases e), ks_ne hf h293 (fun e => by cases e), ks_ne hf h303 (fun e => by cases e), ks_ne hf h304 (fun e => by cases e)⟩
  have uk : ou ≠ 290 ∧ ou ≠ 292 ∧ ou ≠ 293 ∧ ou ≠ 299 ∧ ou ≠ 294 ∧ ou ≠ 295 := ⟨ks_neO ho hO, ks_ne ho h292 (fun e => by cases e), ks_ne ho h293 (fun e => by cases e), ks_ne ho h299 (fun e => by cases e), ks_ne ho h294 (fun e => by cases e), ks_ne ho h295 (fun e => by cases e)⟩
  have ul : ou ≠ 300 ∧ ou ≠ 301 ∧ ou ≠ 302 ∧ ou ≠ 303 ∧ ou ≠ 304 := ⟨ks_ne ho h300 (fun e => by cases e), ks_ne ho h301 (fun e => by cases e), ks_ne ho h302 (fun e => by cases e), ks_ne ho h303 (fun e => by cases e), ks_ne ho h304 (fun e => by cases e)⟩
  obtain ⟨p, hp⟩ : ∃ p, p = rp_msg (fun k => g (i + k)) n := ⟨_, rfl⟩
  have l3 : ∀ (S1 : ks_S) (F1 : Nat → Int32), ks_up S S1 [291, 292, 293, 303, 304] → S1.2.2 292 = some (kI 8 F1) → mhR S1 → mrR S1 → (∀ x, x < 5 → F1 x = rp_all p (sh_len n / 64) x) → ∀ (u j : Nat) (S2 : ks_S), j + u = 20 → ks_up S1 S2 [ou] → S2.2.2 ou = some (kB No (ks_pt (rp_out F1) go oa j)) → ks_X l G mX16_ripe (d + 3) 120 [(0, .ref 290), (1, .ref fr), (2, .int (nI i)), (3, .int (nI n)), (4, .ref ou), (5, .int (nI oa)), (8, .int (nI j))] [] S2 (fun z S' => z = none ∧ ks_up S S' [291, 292, 293, 303, 304, ou] ∧ mhR S' ∧ mrR S' ∧ S'.2.2 ou = some (kB No (ks_pt (ripe_ (fun k => g (i + k)) n) go oa 20))) := by
    intro S1 F1 hu e1 m1 r1 hF u
    induction u with
    | zero =>
      intro j S2 hj hu2 e2
      have o2 := hu2.at (hu.at hO (by decide)) (by rw [List.mem_singleton]; exact Ne.symm uk.1)
      have s2 := hu2.at e1 (by rw [List.mem_singleton]; exact Ne.symm uk.2.1)
      obtain rfl : j = 20 := hj
      refine ks_iload dX16_ripe_120 rfl rfl ?_
      refine ks_bipush (x := nI 20) dX16_ripe_122 (by decide) rfl ?_
      refine ks_icmp_geN (tgt := 159) (by decide) (by decide) dX16_ripe_124 (by decide) rfl (fun _ => ?_) (fun h => absurd h (by decide))
      refine ks_ret rfl dX16_ripe_159 ?_
      have e3 : ks_pt (rp_out F1) go oa 20 = ks_pt (ripe_ (fun k => g (i + k)) n) go oa 20 := ks_pt_congr go oa 20 (fun x hx => by
        unfold ripe_ rp_out
        rw [← hp, hF (x / 4) (by omega)])
      rw [e3] at e2
      obtain ⟨⟨x1, x2, x3⟩, -, ⟨x4, x5⟩, x6, x7, ⟨x8, x9⟩⟩ := m1
      obtain ⟨z1, z2, z3, ⟨z4, z5⟩, ⟨z6, z7⟩⟩ := r1
      have nn : ∀ {x}, ou ≠ x → x ∉ [ou] := fun h q => h (List.mem_singleton.mp q).symm
      exact ⟨rfl, (hu.mono (fun x hx => List.mem_append_left [ou] hx)).trans (hu2.mono (fun x hx => List.mem_append_right [291, 292, 293, 303, 304] hx)), ⟨⟨x1, x2, hu2.at x3 (nn hou)⟩, ⟨F1, s2⟩, ⟨x4, hu2.at x5 (nn uk.2.2.1)⟩, hu2.at x6 (nn uk.2.2.2.2.1), hu2.at x7 (nn uk.2.2.2.2.2), ⟨x8, hu2.at x9 (nn uk.2.2.2.1)⟩⟩, ⟨hu2.at z1 (nn ul.1), hu2.at z2 (nn ul.2.1), hu2.at z3 (nn ul.2.2.1), ⟨z4, hu2.at z5 (nn ul.2.2.2.1)⟩, ⟨z6, hu2.at z7 (nn ul.2.2.2.2)⟩⟩, e2⟩
    | succ u ih =>
      intro j S2 hj hu2 e2
      have o2 := hu2.at (hu.at hO (by decide)) (by rw [List.mem_singleton]; exact Ne.symm uk.1)
      have s2 := hu2.at e1 (by rw [List.mem_singleton]; exact Ne.symm uk.2.1)
      have j20 : j < 20 := by omega
      refine ks_iload dX16_ripe_120 rfl rfl ?_
      refine ks_bipush (x := nI 20) dX16_ripe_122 (by decide) rfl ?_
      refine ks_icmp_geN (tgt := 159) (by omega) (by decide) dX16_ripe_124 (by decide) rfl (fun h1 => absurd h1 (by omega)) (fun h1 => ?_)
      refine ks_aload dX16_ripe_127 rfl rfl ?_
      refine ks_iload dX16_ripe_129 rfl rfl ?_
      refine ks_iload dX16_ripe_131 rfl rfl ?_
      refine ks_addN dX16_ripe_133 rfl ?_
      refine ks_aload_n dX16_ripe_134 rfl rfl ?_
      refine ks_getf (T := TX16) (kf := 1) kx_2369 rfl in_X16 cl_X16 (by decide) o2 rfl dX16_ripe_135 rfl ?_
      refine ks_iload dX16_ripe_138 rfl rfl ?_
      refine ks_iconst (x := nI 4) dX16_ripe_140 (by decide) rfl ?_
      refine ks_divN (by omega) (by decide) (by decide) dX16_ripe_141 rfl ?_
      refine ks_ialdN (i := j / 4) s2 rfl (by omega) (by decide) dX16_ripe_142 rfl ?_
      refine ks_bipush (x := nI 8) dX16_ripe_143 (by decide) rfl ?_
      refine ks_iload dX16_ripe_145 rfl rfl ?_
      refine ks_iconst (x := nI 4) dX16_ripe_147 (by decide) rfl ?_
      refine ks_remN (by omega) (by decide) (by decide) dX16_ripe_148 rfl ?_
      refine ks_mulN dX16_ripe_149 rfl ?_
      refine ks_iushr dX16_ripe_150 rfl ?_
      refine ks_i2b dX16_ripe_151 rfl ?_
      refine ks_bastB (i := oa + j) (c := (rp_out F1 j)) e2 rfl (by omega) (by omega) (ks_by_i8 _) dX16_ripe_152 rfl ?_
      refine ks_incN (c := 1) (e := j + 1) dX16_ripe_153 rfl (by decide) rfl (by decide) rfl ?_
      refine ks_sub [(8, _), (0, _), (1, _), (2, _), (3, _), (4, _), (5, _)] rfl ?_
      refine ks_goto (tgt := 120) dX16_ripe_156 (by decide) ?_
      refine ks_sub [(0, _), (1, _), (2, _), (3, _), (4, _), (5, _), (8, _)] rfl (ih (j + 1) _ (by omega) (hu2.trans (ks_up_set _ _ (List.mem_singleton.mpr rfl))) ?_)
      rw [ks_set_same]
      congr 2
      exact ks_pt_s _ _ _ _
  have l2 : ∀ (gp1 : Nat → Nat), kO gp1 → (∀ j, j < pdE (n - n / 64 * 64) → gp1 j = p (n / 64 * 64 + j)) → ∀ (u j : Nat) (S1 : ks_S) (F1 : Nat → Int32), 64 * j + 64 * u = pdE (n - n / 64 * 64) → ks_up S S1 [291, 292, 293, 303, 304] → S1.2.2 291 = some (kB 128 gp1) → S1.2.2 292 = some (kI 8 F1) → (∃ f, S1.2.2 293 = some (kI 64 f)) → (∃ f, S1.2.2 303 = some (kI 5 f)) → (∃ f, S1.2.2 304 = some (kI 5 f)) → (∀ x, x < 5 → F1 x = rp_all p (n / 64 + j) x) → ks_X l G mX16_ripe (d + 3) 94 [(0, .ref 290), (1, .ref fr), (2, .int (nI i)), (3, .int (nI n)), (4, .ref ou), (5, .int (nI oa)), (6, .int (nI (n / 64 * 64))), (7, .int (nI (pdE (n - n / 64 * 64)))), (8, .int (nI (64 * j)))] [] S1 (fun z S' => z = none ∧ ks_up S S' [291, 292, 293, 303, 304, ou] ∧ mhR S' ∧ mrR S' ∧ S'.2.2 ou = some (kB No (ks_pt (ripe_ (fun k => g (i + k)) n) go oa 20))) := by
    intro gp1 kp1 hgp u
    induction u with
    | zero =>
      intro j S1 F1 hj hu e9 e1 ⟨f1, ef⟩ ⟨v1, ev⟩ ⟨v2, ew⟩ hF
      have e128 : pdE (n - n / 64 * 64) ≤ 128 := by unfold pdE; omega
      have o1 := hu.at hO (by decide)
      have k0 := hu.at h300 (by decide)
      have k1 := hu.at h301 (by decide)
      have k2 := hu.at h302 (by decide)
      refine ks_iload dX16_ripe_94 rfl rfl ?_
      refine ks_iload dX16_ripe_96 rfl rfl ?_
      refine ks_icmp_geN (tgt := 117) (by omega) (by omega) dX16_ripe_98 (by decide) rfl (fun h1 => ?_) (fun h1 => absurd h1 (by omega))
      refine ks_iconst (x := nI 0) dX16_ripe_117 (by decide) rfl ?_
      refine ks_istore dX16_ripe_118 (by decide) rfl ?_
      refine ks_sub [(8, _), (0, _), (1, _), (2, _), (3, _), (4, _), (5, _), (6, _), (7, _)] rfl ?_
      have ej : n / 64 + j = sh_len n / 64 := by unfold sh_len; unfold pdE at hj; omega
      rw [ej] at hF
      have ho1 := hu.at ho (by simp only [List.mem_cons, List.not_mem_nil, or_false]; omega)
      refine ks_sub [(0, _), (1, _), (2, _), (3, _), (4, _), (5, _), (8, _)] rfl (l3 S1 F1 hu e1 ⟨⟨gp1, kp1, e9⟩, ⟨F1, e1⟩, ⟨f1, ef⟩, hu.at h294 (by decide), hu.at h295 (by decide), ⟨v0, hu.at h299 (by decide)⟩⟩ ⟨k0, k1, k2, ⟨v1, ev⟩, ⟨v2, ew⟩⟩ hF 20 0 S1 rfl (ks_up.rf _ _) ?_)
      rw [ho1]
      congr 2
      funext x
      unfold ks_pt
      rw [if_neg (by omega)]
    | succ u ih =>
      intro j S1 F1 hj hu e9 e1 ⟨f1, ef⟩ ⟨v1, ev⟩ ⟨v2, ew⟩ hF
      have e128 : pdE (n - n / 64 * 64) ≤ 128 := by unfold pdE; omega
      have o1 := hu.at hO (by decide)
      have k0 := hu.at h300 (by decide)
      have k1 := hu.at h301 (by decide)
      have k2 := hu.at h302 (by decide)
      refine ks_iload dX16_ripe_94 rfl rfl ?_
      refine ks_iload dX16_ripe_96 rfl rfl ?_
      refine ks_icmp_geN (tgt := 117) (by omega) (by omega) dX16_ripe_98 (by decide) rfl (fun h1 => absurd h1 (by omega)) (fun h1 => ?_)
      refine ks_aload_n dX16_ripe_101 rfl rfl ?_
      refine ks_aload_n dX16_ripe_102 rfl rfl ?_
      refine ks_getf (T := TX16) (kf := 0) kx_2368 rfl in_X16 cl_X16 (by decide) o1 rfl dX16_ripe_103 rfl ?_
      refine ks_iload dX16_ripe_106 rfl rfl ?_
      refine ks_callV (n := 2) (M' := mX16_ripeBlock) (c_md_ripeBlock (d := d) o1 e9 kp1 (by omega) (by decide) e1 ef k0 k1 k2 ev ew (by decide)) o1 cl_X16 rfl kx_2221 kx_2223 kxp_99 kx_30 kx_2224 (by decide +kernel) rfl (by decide) (Nat.le_of_ble_eq_true rfl) rfl dX16_ripe_108 rfl (fun z2 T2 y2 => ?_)
      obtain ⟨rfl, u2, hf2, hv2, hw2, F2, e2, b2⟩ := y2
      refine ks_incN (c := 64) (e := 64 * j + 64) dX16_ripe_111 rfl (by decide) rfl (by decide) rfl ?_
      refine ks_sub [(8, _), (0, _), (1, _), (2, _), (3, _), (4, _), (5, _), (6, _), (7, _)] rfl ?_
      refine ks_goto (tgt := 94) dX16_ripe_114 (by decide) ?_
      refine ks_sub [(0, _), (1, _), (2, _), (3, _), (4, _), (5, _), (6, _), (7, _), (8, _)] rfl (ih (j + 1) T2 F2 (by omega) (hu.trans (u2.mono (by decide))) (u2.at e9 (by decide)) e2 hf2 hv2 hw2 (fun x hx => ?_))
      rw [b2 x hx]
      show _ = rp_blk (rp_all p (n / 64 + j)) p (64 * (n / 64 + j)) x
      refine rp_blk_congr hF (fun y hy => ?_) x hx
      rw [hgp _ (by omega)]
      congr 1
      omega
  have l1 : ∀ (u q : Nat) (S1 : ks_S) (F1 : Nat → Int32), q + u = n / 64 → ks_up S S1 [292, 293, 303, 304] → S1.2.2 292 = some (kI 8 F1) → (∃ f, S1.2.2 293 = some (kI 64 f)) → (∃ f, S1.2.2 303 = some (kI 5 f)) → (∃ f, S1.2.2 304 = some (kI 5 f)) → (∀ x, x < 5 → F1 x = rp_all p q x) → ks_X l G mX16_ripe (d + 3) 52 [(0, .ref 290), (1, .ref fr), (2, .int (nI i)), (3, .int (nI n)), (4, .ref ou), (5, .int (nI oa)), (6, .int (nI (n / 64 * 64))), (7, .int (nI (64 * q)))] [] S1 (fun z S' => z = none ∧ ks_up S S' [291, 292, 293, 303, 304, ou] ∧ mhR S' ∧ mrR S' ∧ S'.2.2 ou = some (kB No (ks_pt (ripe_ (fun k => g (i + k)) n) go oa 20))) := by
    intro u
    induction u with
    | zero =>
      intro q S1 F1 hq hu e1 ⟨f1, ef⟩ ⟨v1, ev⟩ ⟨v2, ew⟩ hF
      have o1 := hu.at hO (by decide)
      have k0 := hu.at h300 (by decide)
      have k1 := hu.at h301 (by decide)
      have k2 := hu.at h302 (by decide)
      have ef1 := hu.at hf (by simp only [List.mem_cons, List.not_mem_nil, or_false]; omega)
      have e291 := hu.at h291 (by decide)
      obtain rfl : q = n / 64 := hq
      refine ks_iload dX16_ripe_52 rfl rfl ?_
      refine ks_iload dX16_ripe_54 rfl rfl ?_
      refine ks_icmp_geN (tgt := 74) (by omega) (by omega) dX16_ripe_56 (by decide) rfl (fun h1 => ?_) (fun h1 => absurd h1 (by omega))
      refine ks_aload_n dX16_ripe_74 rfl rfl ?_
      refine ks_aload_n dX16_ripe_75 rfl rfl ?_
      refine ks_iload_n dX16_ripe_76 rfl rfl ?_
      refine ks_iload dX16_ripe_77 rfl rfl ?_
      refine ks_addN dX16_ripe_79 rfl ?_
      refine ks_iload_n dX16_ripe_80 rfl rfl ?_
      refine ks_iload dX16_ripe_81 rfl rfl ?_
      refine ks_subN (by omega) dX16_ripe_83 rfl ?_
      refine ks_iload_n dX16_ripe_84 rfl rfl ?_
      refine ks_iconst (x := nI 0) dX16_ripe_85 (by decide) rfl ?_
      refine ks_ti (y := ks_bo false) rfl ?_
      refine ks_callV (n := 5) (M' := mX16_pad) (c_md_padL (d := d + 2) o1 ef1 kg (by omega) hN (by omega) (by omega) e291 kp hfr) o1 cl_X16 rfl kx_2003 kx_2005 kxp_64 kx_30 kx_2006 (by decide +kernel) rfl (by decide) (Nat.le_of_ble_eq_true rfl) rfl dX16_ripe_86 rfl (fun z2 T2 y2 => ?_)
      obtain ⟨rfl, u2, gp2, kp2, e2, b2⟩ := y2
      refine ks_istore dX16_ripe_89 (by decide) rfl ?_
      refine ks_sub [(7, _), (0, _), (1, _), (2, _), (3, _), (4, _), (5, _), (6, _)] rfl ?_
      refine ks_iconst (x := nI 0) dX16_ripe_91 (by decide) rfl ?_
      refine ks_istore dX16_ripe_92 (by decide) rfl ?_
      refine ks_sub [(8, _), (0, _), (1, _), (2, _), (3, _), (4, _), (5, _), (6, _), (7, _)] rfl ?_
      have hpad : ∀ j, j < pdE (n - n / 64 * 64) → gp2 j = p (n / 64 * 64 + j) := fun j hj => by rw [b2 j hj, rp_pad hj, hp]
      refine ks_sub [(0, _), (1, _), (2, _), (3, _), (4, _), (5, _), (6, _), (7, _), (8, _)] rfl (l2 gp2 kp2 hpad (pdE (n - n / 64 * 64) / 64) 0 T2 F1 (by unfold pdE; omega) ((hu.mono (by decide)).trans (u2.mono (by decide))) e2 (u2.at e1 (by decide)) ⟨f1, u2.at ef (by decide)⟩ ⟨v1, u2.at ev (by decide)⟩ ⟨v2, u2.at ew (by decide)⟩ hF)
    | succ u ih =>
      intro q S1 F1 hq hu e1 ⟨f1, ef⟩ ⟨v1, ev⟩ ⟨v2, ew⟩ hF
      have o1 := hu.at hO (by decide)
      have k0 := hu.at h300 (by decide)
      have k1 := hu.at h301 (by decide)
      have k2 := hu.at h302 (by decide)
      have ef1 := hu.at hf (by simp only [List.mem_cons, List.not_mem_nil, or_false]; omega)
      have e291 := hu.at h291 (by decide)
      refine ks_iload dX16_ripe_52 rfl rfl ?_
      refine ks_iload dX16_ripe_54 rfl rfl ?_
      refine ks_icmp_geN (tgt := 74) (by omega) (by omega) dX16_ripe_56 (by decide) rfl (fun h1 => absurd h1 (by omega)) (fun h1 => ?_)
      refine ks_aload_n dX16_ripe_59 rfl rfl ?_
      refine ks_aload_n dX16_ripe_60 rfl rfl ?_
      refine ks_iload_n dX16_ripe_61 rfl rfl ?_
      refine ks_iload dX16_ripe_62 rfl rfl ?_
      refine ks_addN dX16_ripe_64 rfl ?_
      refine ks_callV (n := 2) (M' := mX16_ripeBlock) (c_md_ripeBlock (d := d) o1 ef1 kg (by omega) hN e1 ef k0 k1 k2 ev ew fk.2.2.1) o1 cl_X16 rfl kx_2221 kx_2223 kxp_99 kx_30 kx_2224 (by decide +kernel) rfl (by decide) (Nat.le_of_ble_eq_true rfl) rfl dX16_ripe_65 rfl (fun z2 T2 y2 => ?_)
      obtain ⟨rfl, u2, hf2, hv2, hw2, F2, e2, b2⟩ := y2
      refine ks_incN (c := 64) (e := 64 * q + 64) dX16_ripe_68 rfl (by decide) rfl (by decide) rfl ?_
      refine ks_sub [(7, _), (0, _), (1, _), (2, _), (3, _), (4, _), (5, _), (6, _)] rfl ?_
      refine ks_goto (tgt := 52) dX16_ripe_71 (by decide) ?_
      refine ks_sub [(0, _), (1, _), (2, _), (3, _), (4, _), (5, _), (6, _), (7, _)] rfl (ih (q + 1) T2 F2 (by omega) (hu.trans u2) e2 hf2 hv2 hw2 (fun x hx => ?_))
      rw [b2 x hx]
      show _ = rp_blk (rp_all p q) p (64 * q) x
      refine rp_blk_congr hF (fun y hy => ?_) x hx
      rw [hp]
      unfold rp_msg
      rw [if_pos (by omega)]
      congr 1
      omega
  refine ks_of (by decide) rfl rfl (Nat.le_of_ble_eq_true rfl) ?_
  show ks_X l G mX16_ripe (d + 3) 0 [(0, .ref 290), (1, .ref fr), (2, .int (nI i)), (3, .int (nI n)), (4, .ref ou), (5, .int (nI oa))] [] S _
  refine ks_iload_n dX16_ripe_0 rfl rfl ?_
  refine ks_bipush (x := nI 64) dX16_ripe_1 (by decide) rfl ?_
  refine ks_divN (by omega) (by decide) (by decide) dX16_ripe_3 rfl ?_
  refine ks_bipush (x := nI 64) dX16_ripe_4 (by decide) rfl ?_
  refine ks_mulN dX16_ripe_6 rfl ?_
  refine ks_istore dX16_ripe_7 (by decide) rfl ?_
  refine ks_sub [(6, _), (0, _), (1, _), (2, _), (3, _), (4, _), (5, _)] rfl ?_
  refine ks_aload_n dX16_ripe_9 rfl rfl ?_
  refine ks_getf (T := TX16) (kf := 1) kx_2369 rfl in_X16 cl_X16 (by decide) hO rfl dX16_ripe_10 rfl ?_
  refine ks_iconst (x := nI 0) dX16_ripe_13 (by decide) rfl ?_
  refine ks_ldc dX16_ripe_14 kx_2216 rfl ?_
  refine ks_ti (y := nI 1732584193) rfl ?_
  refine ks_iastN (i := 0) (by decide) h292 rfl (by decide) (by decide) dX16_ripe_16 rfl ?_
  refine ks_aload_n dX16_ripe_17 rfl rfl ?_
  refine ks_getf (T := TX16) (kf := 1) kx_2369 rfl in_X16 cl_X16 (by decide) ((ks_set_ne _ _ (by decide)).trans hO) rfl dX16_ripe_18 rfl ?_
  refine ks_iconst (x := nI 1) dX16_ripe_21 (by decide) rfl ?_
  refine ks_ldc dX16_ripe_22 kx_2217 rfl ?_
  refine ks_iastN (i := 1) (by decide) (ks_set_same _ _ _) rfl (by decide) (by decide) dX16_ripe_24 rfl ?_
  refine ks_aload_n dX16_ripe_25 rfl rfl ?_
  refine ks_getf (T := TX16) (kf := 1) kx_2369 rfl in_X16 cl_X16 (by decide) ((ks_set_ne _ _ (by decide)).trans ((ks_set_ne _ _ (by decide)).trans hO)) rfl dX16_ripe_26 rfl ?_
  refine ks_iconst (x := nI 2) dX16_ripe_29 (by decide) rfl ?_
  refine ks_ldc dX16_ripe_30 kx_2218 rfl ?_
  refine ks_iastN (i := 2) (by decide) (ks_set_same _ _ _) rfl (by decide) (by decide) dX16_ripe_32 rfl ?_
  refine ks_aload_n dX16_ripe_33 rfl rfl ?_
  refine ks_getf (T := TX16) (kf := 1) kx_2369 rfl in_X16 cl_X16 (by decide) ((ks_set_ne _ _ (by decide)).trans ((ks_set_ne _ _ (by decide)).trans ((ks_set_ne _ _ (by decide)).trans hO))) rfl dX16_ripe_34 rfl ?_
  refine ks_iconst (x := nI 3) dX16_ripe_37 (by decide) rfl ?_
  refine ks_ldc dX16_ripe_38 kx_2219 rfl ?_
  refine ks_ti (y := nI 271733878) rfl ?_
  refine ks_iastN (i := 3) (by decide) (ks_set_same _ _ _) rfl (by decide) (by decide) dX16_ripe_40 rfl ?_
  refine ks_aload_n dX16_ripe_41 rfl rfl ?_
  refine ks_getf (T := TX16) (kf := 1) kx_2369 rfl in_X16 cl_X16 (by decide) ((ks_set_ne _ _ (by decide)).trans ((ks_set_ne _ _ (by decide)).trans ((ks_set_ne _ _ (by decide)).trans ((ks_set_ne _ _ (by decide)).trans hO)))) rfl dX16_ripe_42 rfl ?_
  refine ks_iconst (x := nI 4) dX16_ripe_45 (by decide) rfl ?_
  refine ks_ldc dX16_ripe_46 kx_2220 rfl ?_
  refine ks_iastN (i := 4) (by decide) (ks_set_same _ _ _) rfl (by decide) (by decide) dX16_ripe_48 rfl ?_
  refine ks_iconst (x := nI 0) dX16_ripe_49 (by decide) rfl ?_
  refine ks_istore dX16_ripe_50 (by decide) rfl ?_
  refine ks_sub [(7, _), (0, _), (1, _), (2, _), (3, _), (4, _), (5, _), (6, _)] rfl ?_
  refine ks_sub [(0, _), (1, _), (2, _), (3, _), (4, _), (5, _), (6, _), (7, _)] rfl (l1 (n / 64) 0 _ _ (Nat.zero_add _) ?_ (ks_set_same _ _ _) ⟨f0, ?_⟩ ⟨a0, ?_⟩ ⟨b0, ?_⟩ (fun x hx => ?_))
  · exact ((((ks_up_set _ _ (by decide)).trans (ks_up_set _ _ (by decide))).trans (ks_up_set _ _ (by decide))).trans (ks_up_set _ _ (by decide))).trans (ks_up_set _ _ (by decide))
  · exact ((ks_set_ne _ _ (by decide)).trans ((ks_set_ne _ _ (by decide)).trans ((ks_set_ne _ _ (by decide)).trans ((ks_set_ne _ _ (by decide)).trans ((ks_set_ne _ _ (by decide)).trans h293)))))
  · exact ((ks_set_ne _ _ (by decide)).trans ((ks_set_ne _ _ (by decide)).trans ((ks_set_ne _ _ (by decide)).trans ((ks_set_ne _ _ (by decide)).trans ((ks_set_ne _ _ (by decide)).trans h303)))))
  · exact ((ks_set_ne _ _ (by decide)).trans ((ks_set_ne _ _ (by decide)).trans ((ks_set_ne _ _ (by decide)).trans ((ks_set_ne _ _ (by decide)).trans ((ks_set_ne _ _ (by decide)).trans h304)))))
  · have h5 : x = 0 ∨ x = 1 ∨ x = 2 ∨ x = 3 ∨ x = 4 := by omega
    rcases h5 with rfl | rfl | rfl | rfl | rfl <;> rfl
set_option maxRecDepth 100000 in
set_option maxHeartbeats 800000 in
theorem c_md_hash160 {l : Launch} {G : ks_G} {d : Nat} {S : ks_S} {V : Nat → Value} {fr N i n ou No oa : Nat} {g go gi : Nat → Nat} (hO : S.2.2 290 = some (rfE V)) (hM : mhR S) (hR : mrR S) (h305 : S.2.2 305 = some (kB 32 gi)) (kgi : kO gi) (hf : S.2.2 fr = some (kB N g)) (kg : kO g) (hi : i + n ≤ N) (hN : N < 2 ^ 28) (ho : S.2.2 ou = some (kB No go)) (kgo : kO go) (hoa : oa + 20 ≤ No) (hNo : No < 2 ^ 28) (hfr : fr ≠ 291) (hou : ou ≠ 291 ∧ ou ≠ 305) : ks_P l G yX16_hash160 mX16_hash160 (d + 4) [.ref 290, .ref fr, .int (nI i), .int (nI n), .ref ou, .int (nI oa)] S (fun z S' => z = none ∧ ks_up S S' [291, 292, 293, 299, 303, 304, 305, ou] ∧ mhR S' ∧ mrR S' ∧ (∃ g, kO g ∧ S'.2.2 305 = some (kB 32 g)) ∧ S'.2.2 ou = some (kB No (ks_pt (h160_ (fun k => g (i + k)) n) go oa 20))) := by
  have uk : ou ≠ 290 := ks_neO ho hO
  refine ks_of (by decide) rfl rfl (Nat.le_of_ble_eq_true rfl) ?_
  show ks_X l G mX16_hash160 (d + 4) 0 [(0, .ref 290), (1, .ref fr), (2, .int (nI i)), (3, .int (nI n)), (4, .ref ou), (5, .int (nI oa))] [] S _
  refine ks_aload_n dX16_hash160_0 rfl rfl ?_
  refine ks_aload_n dX16_hash160_1 rfl rfl ?_
  refine ks_iload_n dX16_hash160_2 rfl rfl ?_
  refine ks_iload_n dX16_hash160_3 rfl rfl ?_
  refine ks_aload_n dX16_hash160_4 rfl rfl ?_
  refine ks_getf (T := TX16) (kf := 14) kx_2382 rfl in_X16 cl_X16 (by decide) hO rfl dX16_hash160_5 rfl ?_
  refine ks_iconst (x := nI 0) dX16_hash160_8 (by decide) rfl ?_
  refine ks_callV (n := 5) (M' := mX16_sha) (c_md_sha (d := d + 1) hO hM hf kg hi hN h305 kgi (oa := 0) (by decide) (by decide) hfr (by decide)) hO cl_X16 rfl kx_1992 kx_1994 kxp_62 kx_30 kx_1995 (by decide +kernel) rfl (by decide) (Nat.le_of_ble_eq_true rfl) rfl dX16_hash160_9 rfl (fun z1 T1 y1 => ?_)
  obtain ⟨rfl, u1, m1, e1⟩ := y1
  have k1 : kO (ks_pt (sha_ (fun k => g (i + k)) n) gi 0 32) := kO_pt (kO_sha _ _) kgi 0 32
  have o1 := u1.at hO (by decide)
  have r1 : mrR T1 := hR.up u1 (by decide)
  obtain ⟨go1, kgo1, ho1, eq1⟩ : ∃ go1, kO go1 ∧ T1.2.2 ou = some (kB No go1) ∧ go1 = go := by
    refine ⟨go, kgo, u1.at ho ?_, rfl⟩
    obtain ⟨⟨a1, a2, a3⟩, ⟨b1, b2⟩, ⟨c1, c2⟩, -, -, ⟨d1, d2⟩⟩ := hM
    have q2 : ou ≠ 292 := ks_ne ho b2 (fun e => by cases e)
    have q3 : ou ≠ 293 := ks_ne ho c2 (fun e => by cases e)
    have q4 : ou ≠ 299 := ks_ne ho d2 (fun e => by cases e)
    simp only [List.mem_cons, List.not_mem_nil, or_false]
    omega
  subst eq1
  refine ks_aload_n dX16_hash160_12 rfl rfl ?_
  refine ks_aload_n dX16_hash160_13 rfl rfl ?_
  refine ks_getf (T := TX16) (kf := 14) kx_2382 rfl in_X16 cl_X16 (by decide) o1 rfl dX16_hash160_14 rfl ?_
  refine ks_iconst (x := nI 0) dX16_hash160_17 (by decide) rfl ?_
  refine ks_bipush (x := nI 32) dX16_hash160_18 (by decide) rfl ?_
  refine ks_aload dX16_hash160_20 rfl rfl ?_
  refine ks_iload dX16_hash160_22 rfl rfl ?_
  refine ks_callV (n := 5) (M' := mX16_ripe) (c_md_ripe (d := d) (i := 0) (n := 32) o1 m1 r1 e1 k1 (by decide) (by decide) ho1 kgo hoa hNo (by decide) hou.1) o1 cl_X16 rfl kx_2212 kx_2214 kxp_98 kx_30 kx_2215 (by decide +kernel) rfl (by decide) (Nat.le_of_ble_eq_true rfl) rfl dX16_hash160_24 rfl (fun z2 T2 y2 => ?_)
  obtain ⟨rfl, u2, m2, r2, e2⟩ := y2
  refine ks_ret rfl dX16_hash160_27 ?_
  have e3 : ks_pt (ripe_ (fun k => ks_pt (sha_ (fun k => g (i + k)) n) gi 0 32 (0 + k)) 32) go1 oa 20 = ks_pt (h160_ (fun k => g (i + k)) n) go1 oa 20 := by
    unfold h160_
    rw [ripe_congr (m' := sha_ (fun k => g (i + k)) n) (fun k hk => by
      unfold ks_pt
      rw [if_pos (by omega), Nat.zero_add, Nat.sub_zero])]
  rw [e3] at e2
  refine ⟨rfl, (u1.mono (by intro x hx; simp only [List.mem_cons, List.not_mem_nil, or_false] at hx ⊢; omega)).trans (u2.mono ?_), m2, r2, ⟨_, k1, u2.at e1 ?_⟩, e2⟩
  · intro x hx; simp only [List.mem_cons, List.not_mem_nil, or_false] at hx ⊢; omega
  · simp only [List.mem_cons, List.not_mem_nil, or_false]; omega

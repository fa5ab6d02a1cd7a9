/-! THE REFERENCE: SHA -/
/-- the rows of the hashes -/
def mhR (S : ks_S) : Prop := (∃ g, kO g ∧ S.2.2 291 = some (kB 128 g)) ∧ (∃ F, S.2.2 292 = some (kI 8 F)) ∧ (∃ f, S.2.2 293 = some (kI 64 f)) ∧ S.2.2 294 = some (kI 8 (ks_row st_SHA_START)) ∧ S.2.2 295 = some (kI 64 sh_K) ∧ (∃ f, S.2.2 299 = some (kI 8 f))
theorem mhR.up {S S1 : ks_S} {L : List Nat} (h : mhR S) (hu : ks_up S S1 L) (hL : ∀ x ∈ L, x < 291 ∨ 299 < x) : mhR S1 := by
  have n : ∀ x, 291 ≤ x → x ≤ 299 → x ∉ L := fun x a b q => by have := hL x q; omega
  obtain ⟨⟨g, k, h1⟩, ⟨F, h2⟩, ⟨f, h3⟩, h4, h5, ⟨v, h6⟩⟩ := h
  exact ⟨⟨g, k, hu.at h1 (n _ (by decide) (by decide))⟩, ⟨F, hu.at h2 (n _ (by decide) (by decide))⟩, ⟨f, hu.at h3 (n _ (by decide) (by decide))⟩, hu.at h4 (n _ (by decide) (by decide)), hu.at h5 (n _ (by decide) (by decide)), ⟨v, hu.at h6 (n _ (by decide) (by decide))⟩⟩
theorem sh_pad {g : Nat → Nat} {i n : Nat} {j : Nat} (hj : j < pdE (n - n / 64 * 64)) : pdF true g (i + n / 64 * 64) (n - n / 64 * 64) n j = sh_msg (fun k => g (i + k)) n (n / 64 * 64 + j) := by
  have e : sh_len n = n / 64 * 64 + pdE (n - n / 64 * 64) := by unfold sh_len pdE; omega
  unfold pdF sh_msg
  rw [e]
  by_cases c1 : j < n - n / 64 * 64
  · rw [if_pos c1, if_pos (by omega)]
    congr 1
    omega
  · by_cases c2 : j = n - n / 64 * 64
    · rw [if_neg c1, if_pos c2, if_neg (by omega), if_pos (by omega)]
    · by_cases c3 : pdE (n - n / 64 * 64) ≤ j + 8
      · rw [if_neg c1, if_neg c2, if_pos ⟨c3, hj⟩, if_pos rfl, if_neg (by omega), if_neg (by omega), if_pos (by omega), show n / 64 * 64 + pdE (n - n / 64 * 64) - 1 - (n / 64 * 64 + j) = pdE (n - n / 64 * 64) - 1 - j by omega]
      · rw [if_neg c1, if_neg c2, if_neg (fun h => c3 h.1), if_neg (by omega), if_neg (by omega), if_neg (by omega)]
set_option maxRecDepth 100000 in
set_option maxHeartbeats 1600000 in
theorem c_md_sha {l : Launch} {G : ks_G} {d : Nat} {S : ks_S} {V : Nat → Value} {fr N i n ou No oa : Nat} {g go : Nat → Nat} (hO : S.2.2 290 = some (rfE V)) (hM : mhR S) (hf : S.2.2 fr = some (kB N g)) (kg : kO g) (hi : i + n ≤ N) (hN : N < 2 ^ 28) (ho : S.2.2 ou = some (kB No go)) (kgo : kO go) (hoa : oa + 32 ≤ No) (hNo : No < 2 ^ 28) (hfr : fr ≠ 291) (hou : ou ≠ 291) : ks_P l G yX16_sha mX16_sha (d + 2) [.ref 290, .ref fr, .int (nI i), .int (nI n), .ref ou, .int (nI oa)] S (fun z S' => z = none ∧ ks_up S S' [291, 292, 293, 299, ou] ∧ mhR S' ∧ S'.2.2 ou = some (kB No (ks_pt (sha_ (fun k => g (i + k)) n) go oa 32))) := by
  obtain ⟨⟨gp, kp, h291⟩, ⟨F0, h292⟩, ⟨f0, h293⟩, h294, h295, ⟨v0, h299⟩⟩ := id hM
  have fk : fr ≠ 290 ∧ fr ≠ 292 ∧ fr ≠ 293 ∧ fr ≠ 299 := ⟨ks_neO hf hO, ks_ne hf h292 (fun e => by cases e), ks_ne hf h293 (fun e => by cases e), ks_ne hf h299 (fun e => by cases e)⟩
  have uk : ou ≠ 290 ∧ ou ≠ 292 ∧ ou ≠ 293 ∧ ou ≠ 299 ∧ ou ≠ 294 ∧ ou ≠ 295 := ⟨ks_neO ho hO, ks_ne ho h292 (fun e => by cases e), ks_ne ho h293 (fun e => by cases e), ks_ne ho h299 (fun e => by cases e), ks_ne ho h294 (fun e => by cases e), ks_ne ho h295 (fun e => by cases e)⟩
  obtain ⟨p, hp⟩ : ∃ p, p = sh_msg (fun k => g (i + k)) n := ⟨_, rfl⟩
  have l3 : ∀ (S1 : ks_S) (F1 : Nat → Int32), ks_up S S1 [291, 292, 293, 299] → S1.2.2 292 = some (kI 8 F1) → mhR S1 → (∀ x, x < 8 → F1 x = sh_all p (sh_len n / 64) x) → ∀ (u j : Nat) (S2 : ks_S), j + u = 32 → ks_up S1 S2 [ou] → S2.2.2 ou = some (kB No (ks_pt (sh_out F1) go oa j)) → ks_X l G mX16_sha (d + 2) 110 [(0, .ref 290), (1, .ref fr), (2, .int (nI i)), (3, .int (nI n)), (4, .ref ou), (5, .int (nI oa)), (8, .int (nI j))] [] S2 (fun z S' => z = none ∧ ks_up S S' [291, 292, 293, 299, ou] ∧ mhR S' ∧ S'.2.2 ou = some (kB No (ks_pt (sha_ (fun k => g (i + k)) n) go oa 32))) := by
    intro S1 F1 hu e1 m1 hF u
    induction u with
    | zero =>
      intro j S2 hj hu2 e2
      have o2 := hu2.at (hu.at hO (by decide)) (by rw [List.mem_singleton]; exact Ne.symm uk.1)
      have s2 := hu2.at e1 (by rw [List.mem_singleton]; exact Ne.symm uk.2.1)
      obtain rfl : j = 32 := hj
      refine ks_iload dX16_sha_110 rfl rfl ?_
      refine ks_bipush (x := nI 32) dX16_sha_112 (by decide) rfl ?_
      refine ks_icmp_geN (tgt := 152) (by decide) (by decide) dX16_sha_114 (by decide) rfl (fun _ => ?_) (fun h => absurd h (by decide))
      refine ks_ret rfl dX16_sha_152 ?_
      have e3 : ks_pt (sh_out F1) go oa 32 = ks_pt (sha_ (fun k => g (i + k)) n) go oa 32 := ks_pt_congr go oa 32 (fun x hx => by
        unfold sha_ sh_out
        rw [← hp, hF (x / 4) (by omega)])
      rw [e3] at e2
      exact ⟨rfl, (hu.mono (fun x hx => List.mem_append_left [ou] hx)).trans (hu2.mono (fun x hx => List.mem_append_right [291, 292, 293, 299] hx)), ⟨by
        obtain ⟨⟨a1, a2, a3⟩, -⟩ := m1
        exact ⟨a1, a2, hu2.at a3 (by rw [List.mem_singleton]; exact Ne.symm hou)⟩, ⟨F1, s2⟩, by
        obtain ⟨-, -, ⟨a1, a2⟩, -⟩ := m1
        exact ⟨a1, hu2.at a2 (by rw [List.mem_singleton]; exact Ne.symm uk.2.2.1)⟩, hu2.at m1.2.2.2.1 (by rw [List.mem_singleton]; exact Ne.symm uk.2.2.2.2.1), hu2.at m1.2.2.2.2.1 (by rw [List.mem_singleton]; exact Ne.symm uk.2.2.2.2.2), by
        obtain ⟨-, -, -, -, -, ⟨a1, a2⟩⟩ := m1
        exact ⟨a1, hu2.at a2 (by rw [List.mem_singleton]; exact Ne.symm uk.2.2.2.1)⟩⟩, e2⟩
    | succ u ih =>
      intro j S2 hj hu2 e2
      have o2 := hu2.at (hu.at hO (by decide)) (by rw [List.mem_singleton]; exact Ne.symm uk.1)
      have s2 := hu2.at e1 (by rw [List.mem_singleton]; exact Ne.symm uk.2.1)
      have j32 : j < 32 := by omega
      refine ks_iload dX16_sha_110 rfl rfl ?_
      refine ks_bipush (x := nI 32) dX16_sha_112 (by decide) rfl ?_
      refine ks_icmp_geN (tgt := 152) (by omega) (by decide) dX16_sha_114 (by decide) rfl (fun h1 => absurd h1 (by omega)) (fun h1 => ?_)
      refine ks_aload dX16_sha_117 rfl rfl ?_
      refine ks_iload dX16_sha_119 rfl rfl ?_
      refine ks_iload dX16_sha_121 rfl rfl ?_
      refine ks_addN dX16_sha_123 rfl ?_
      refine ks_aload_n dX16_sha_124 rfl rfl ?_
      refine ks_getf (T := TX16) (kf := 1) kx_2369 rfl in_X16 cl_X16 (by decide) o2 rfl dX16_sha_125 rfl ?_
      refine ks_iload dX16_sha_128 rfl rfl ?_
      refine ks_iconst (x := nI 4) dX16_sha_130 (by decide) rfl ?_
      refine ks_divN (by omega) (by decide) (by decide) dX16_sha_131 rfl ?_
      refine ks_ialdN (i := j / 4) s2 rfl (by omega) (by decide) dX16_sha_132 rfl ?_
      refine ks_bipush (x := nI 24) dX16_sha_133 (by decide) rfl ?_
      refine ks_bipush (x := nI 8) dX16_sha_135 (by decide) rfl ?_
      refine ks_iload dX16_sha_137 rfl rfl ?_
      refine ks_iconst (x := nI 4) dX16_sha_139 (by decide) rfl ?_
      refine ks_remN (by omega) (by decide) (by decide) dX16_sha_140 rfl ?_
      refine ks_mulN dX16_sha_141 rfl ?_
      refine ks_subN (by omega) dX16_sha_142 rfl ?_
      refine ks_iushr dX16_sha_143 rfl ?_
      refine ks_i2b dX16_sha_144 rfl ?_
      refine ks_bastB (i := oa + j) (c := (sh_out F1 j)) e2 rfl (by omega) (by omega) (ks_by_i8 _) dX16_sha_145 rfl ?_
      refine ks_incN (c := 1) (e := j + 1) dX16_sha_146 rfl (by decide) rfl (by decide) rfl ?_
      refine ks_sub [(8, _), (0, _), (1, _), (2, _), (3, _), (4, _), (5, _)] rfl ?_
      refine ks_goto (tgt := 110) dX16_sha_149 (by decide) ?_
      refine ks_sub [(0, _), (1, _), (2, _), (3, _), (4, _), (5, _), (8, _)] rfl (ih (j + 1) _ (by omega) (hu2.trans (ks_up_set _ _ (List.mem_singleton.mpr rfl))) ?_)
      rw [ks_set_same]
      congr 2
      exact ks_pt_s _ _ _ _
  have l2 : ∀ (gp1 : Nat → Nat), kO gp1 → (∀ j, j < pdE (n - n / 64 * 64) → gp1 j = p (n / 64 * 64 + j)) → ∀ (u j : Nat) (S1 : ks_S) (F1 : Nat → Int32), 64 * j + 64 * u = pdE (n - n / 64 * 64) → ks_up S S1 [291, 292, 293, 299] → S1.2.2 291 = some (kB 128 gp1) → S1.2.2 292 = some (kI 8 F1) → (∃ f, S1.2.2 293 = some (kI 64 f)) → (∃ f, S1.2.2 299 = some (kI 8 f)) → (∀ x, x < 8 → F1 x = sh_all p (n / 64 + j) x) → ks_X l G mX16_sha (d + 2) 84 [(0, .ref 290), (1, .ref fr), (2, .int (nI i)), (3, .int (nI n)), (4, .ref ou), (5, .int (nI oa)), (6, .int (nI (n / 64 * 64))), (7, .int (nI (pdE (n - n / 64 * 64)))), (8, .int (nI (64 * j)))] [] S1 (fun z S' => z = none ∧ ks_up S S' [291, 292, 293, 299, ou] ∧ mhR S' ∧ S'.2.2 ou = some (kB No (ks_pt (sha_ (fun k => g (i + k)) n) go oa 32))) := by
    intro gp1 kp1 hgp u
    induction u with
    | zero =>
      intro j S1 F1 hj hu e9 e1 ⟨f1, ef⟩ ⟨v1, ev⟩ hF
      have e128 : pdE (n - n / 64 * 64) ≤ 128 := by unfold pdE; omega
      have o1 := hu.at hO (by decide)
      have k5 := hu.at h295 (by decide)
      refine ks_iload dX16_sha_84 rfl rfl ?_
      refine ks_iload dX16_sha_86 rfl rfl ?_
      refine ks_icmp_geN (tgt := 107) (by omega) (by omega) dX16_sha_88 (by decide) rfl (fun h1 => ?_) (fun h1 => absurd h1 (by omega))
      refine ks_iconst (x := nI 0) dX16_sha_107 (by decide) rfl ?_
      refine ks_istore dX16_sha_108 (by decide) rfl ?_
      refine ks_sub [(8, _), (0, _), (1, _), (2, _), (3, _), (4, _), (5, _), (6, _), (7, _)] rfl ?_
      have ej : n / 64 + j = sh_len n / 64 := by unfold sh_len; unfold pdE at hj; omega
      rw [ej] at hF
      have ho1 := hu.at ho (by simp only [List.mem_cons, List.not_mem_nil, or_false]; omega)
      refine ks_sub [(0, _), (1, _), (2, _), (3, _), (4, _), (5, _), (8, _)] rfl (l3 S1 F1 hu e1 ⟨⟨gp1, kp1, e9⟩, ⟨F1, e1⟩, ⟨f1, ef⟩, hu.at h294 (by decide), k5, ⟨v1, ev⟩⟩ hF 32 0 S1 rfl (ks_up.rf _ _) ?_)
      rw [ho1]
      congr 2
      funext x
      unfold ks_pt
      rw [if_neg (by omega)]
    | succ u ih =>
      intro j S1 F1 hj hu e9 e1 ⟨f1, ef⟩ ⟨v1, ev⟩ hF
      have e128 : pdE (n - n / 64 * 64) ≤ 128 := by unfold pdE; omega
      have o1 := hu.at hO (by decide)
      have k5 := hu.at h295 (by decide)
      refine ks_iload dX16_sha_84 rfl rfl ?_
      refine ks_iload dX16_sha_86 rfl rfl ?_
      refine ks_icmp_geN (tgt := 107) (by omega) (by omega) dX16_sha_88 (by decide) rfl (fun h1 => absurd h1 (by omega)) (fun h1 => ?_)
      refine ks_aload_n dX16_sha_91 rfl rfl ?_
      refine ks_aload_n dX16_sha_92 rfl rfl ?_
      refine ks_getf (T := TX16) (kf := 0) kx_2368 rfl in_X16 cl_X16 (by decide) o1 rfl dX16_sha_93 rfl ?_
      refine ks_iload dX16_sha_96 rfl rfl ?_
      refine ks_callV (n := 2) (M' := mX16_shaBlock) (c_md_shaBlock (d := d) o1 e9 kp1 (by omega) (by decide) e1 ef k5 ev (by decide)) o1 cl_X16 rfl kx_1996 kx_1998 kxp_63 kx_30 kx_1999 (by decide +kernel) rfl (by decide) (Nat.le_of_ble_eq_true rfl) rfl dX16_sha_98 rfl (fun z2 T2 y2 => ?_)
      obtain ⟨rfl, u2, hf2, hv2, F2, e2, b2⟩ := y2
      refine ks_incN (c := 64) (e := 64 * j + 64) dX16_sha_101 rfl (by decide) rfl (by decide) rfl ?_
      refine ks_sub [(8, _), (0, _), (1, _), (2, _), (3, _), (4, _), (5, _), (6, _), (7, _)] rfl ?_
      refine ks_goto (tgt := 84) dX16_sha_104 (by decide) ?_
      refine ks_sub [(0, _), (1, _), (2, _), (3, _), (4, _), (5, _), (6, _), (7, _), (8, _)] rfl (ih (j + 1) T2 F2 (by omega) (hu.trans (u2.mono (by decide))) (u2.at e9 (by decide)) e2 hf2 hv2 (fun x hx => ?_))
      rw [b2 x hx]
      show _ = sh_blk (sh_all p (n / 64 + j)) p (64 * (n / 64 + j)) x
      refine sh_blk_congr hF (fun y hy => ?_) x hx
      rw [hgp _ (by omega)]
      congr 1
      omega
  have l1 : ∀ (u q : Nat) (S1 : ks_S) (F1 : Nat → Int32), q + u = n / 64 → ks_up S S1 [292, 293, 299] → S1.2.2 292 = some (kI 8 F1) → (∃ f, S1.2.2 293 = some (kI 64 f)) → (∃ f, S1.2.2 299 = some (kI 8 f)) → (∀ x, x < 8 → F1 x = sh_all p q x) → ks_X l G mX16_sha (d + 2) 42 [(0, .ref 290), (1, .ref fr), (2, .int (nI i)), (3, .int (nI n)), (4, .ref ou), (5, .int (nI oa)), (6, .int (nI (n / 64 * 64))), (7, .int (nI (64 * q)))] [] S1 (fun z S' => z = none ∧ ks_up S S' [291, 292, 293, 299, ou] ∧ mhR S' ∧ S'.2.2 ou = some (kB No (ks_pt (sha_ (fun k => g (i + k)) n) go oa 32))) := by
    intro u
    induction u with
    | zero =>
      intro q S1 F1 hq hu e1 ⟨f1, ef⟩ ⟨v1, ev⟩ hF
      have o1 := hu.at hO (by decide)
      have k5 := hu.at h295 (by decide)
      have ef1 := hu.at hf (by simp only [List.mem_cons, List.not_mem_nil, or_false]; omega)
      have e291 := hu.at h291 (by decide)
      obtain rfl : q = n / 64 := hq
      refine ks_iload dX16_sha_42 rfl rfl ?_
      refine ks_iload dX16_sha_44 rfl rfl ?_
      refine ks_icmp_geN (tgt := 64) (by omega) (by omega) dX16_sha_46 (by decide) rfl (fun h1 => ?_) (fun h1 => absurd h1 (by omega))
      refine ks_aload_n dX16_sha_64 rfl rfl ?_
      refine ks_aload_n dX16_sha_65 rfl rfl ?_
      refine ks_iload_n dX16_sha_66 rfl rfl ?_
      refine ks_iload dX16_sha_67 rfl rfl ?_
      refine ks_addN dX16_sha_69 rfl ?_
      refine ks_iload_n dX16_sha_70 rfl rfl ?_
      refine ks_iload dX16_sha_71 rfl rfl ?_
      refine ks_subN (by omega) dX16_sha_73 rfl ?_
      refine ks_iload_n dX16_sha_74 rfl rfl ?_
      refine ks_iconst (x := nI 1) dX16_sha_75 (by decide) rfl ?_
      refine ks_ti (y := ks_bo true) rfl ?_
      refine ks_callV (n := 5) (M' := mX16_pad) (c_md_padH (d := d + 1) o1 ef1 kg (by omega) hN (by omega) (by omega) e291 kp hfr) o1 cl_X16 rfl kx_2003 kx_2005 kxp_64 kx_30 kx_2006 (by decide +kernel) rfl (by decide) (Nat.le_of_ble_eq_true rfl) rfl dX16_sha_76 rfl (fun z2 T2 y2 => ?_)
      obtain ⟨rfl, u2, gp2, kp2, e2, b2⟩ := y2
      refine ks_istore dX16_sha_79 (by decide) rfl ?_
      refine ks_sub [(7, _), (0, _), (1, _), (2, _), (3, _), (4, _), (5, _), (6, _)] rfl ?_
      refine ks_iconst (x := nI 0) dX16_sha_81 (by decide) rfl ?_
      refine ks_istore dX16_sha_82 (by decide) rfl ?_
      refine ks_sub [(8, _), (0, _), (1, _), (2, _), (3, _), (4, _), (5, _), (6, _), (7, _)] rfl ?_
      have hpad : ∀ j, j < pdE (n - n / 64 * 64) → gp2 j = p (n / 64 * 64 + j) := fun j hj => by rw [b2 j hj, sh_pad hj, hp]
      refine ks_sub [(0, _), (1, _), (2, _), (3, _), (4, _), (5, _), (6, _), (7, _), (8, _)] rfl (l2 gp2 kp2 hpad (pdE (n - n / 64 * 64) / 64) 0 T2 F1 (by unfold pdE; omega) ((hu.mono (by decide)).trans (u2.mono (by decide))) e2 (u2.at e1 (by decide)) ⟨f1, u2.at ef (by decide)⟩ ⟨v1, u2.at ev (by decide)⟩ hF)
    | succ u ih =>
      intro q S1 F1 hq hu e1 ⟨f1, ef⟩ ⟨v1, ev⟩ hF
      have o1 := hu.at hO (by decide)
      have k5 := hu.at h295 (by decide)
      have ef1 := hu.at hf (by simp only [List.mem_cons, List.not_mem_nil, or_false]; omega)
      have e291 := hu.at h291 (by decide)
      refine ks_iload dX16_sha_42 rfl rfl ?_
      refine ks_iload dX16_sha_44 rfl rfl ?_
      refine ks_icmp_geN (tgt := 64) (by omega) (by omega) dX16_sha_46 (by decide) rfl (fun h1 => absurd h1 (by omega)) (fun h1 => ?_)
      refine ks_aload_n dX16_sha_49 rfl rfl ?_
      refine ks_aload_n dX16_sha_50 rfl rfl ?_
      refine ks_iload_n dX16_sha_51 rfl rfl ?_
      refine ks_iload dX16_sha_52 rfl rfl ?_
      refine ks_addN dX16_sha_54 rfl ?_
      refine ks_callV (n := 2) (M' := mX16_shaBlock) (c_md_shaBlock (d := d) o1 ef1 kg (by omega) hN e1 ef k5 ev ⟨fk.2.1, fk.2.2.1, fk.2.2.2, fk.1⟩) o1 cl_X16 rfl kx_1996 kx_1998 kxp_63 kx_30 kx_1999 (by decide +kernel) rfl (by decide) (Nat.le_of_ble_eq_true rfl) rfl dX16_sha_55 rfl (fun z2 T2 y2 => ?_)
      obtain ⟨rfl, u2, hf2, hv2, F2, e2, b2⟩ := y2
      refine ks_incN (c := 64) (e := 64 * q + 64) dX16_sha_58 rfl (by decide) rfl (by decide) rfl ?_
      refine ks_sub [(7, _), (0, _), (1, _), (2, _), (3, _), (4, _), (5, _), (6, _)] rfl ?_
      refine ks_goto (tgt := 42) dX16_sha_61 (by decide) ?_
      refine ks_sub [(0, _), (1, _), (2, _), (3, _), (4, _), (5, _), (6, _), (7, _)] rfl (ih (q + 1) T2 F2 (by omega) (hu.trans u2) e2 hf2 hv2 (fun x hx => ?_))
      rw [b2 x hx]
      show _ = sh_blk (sh_all p q) p (64 * q) x
      refine sh_blk_congr hF (fun y hy => ?_) x hx
      rw [hp]
      unfold sh_msg
      rw [if_pos (by omega)]
      congr 1
      omega
  refine ks_of (by decide) rfl rfl (Nat.le_of_ble_eq_true rfl) ?_
  show ks_X l G mX16_sha (d + 2) 0 [(0, .ref 290), (1, .ref fr), (2, .int (nI i)), (3, .int (nI n)), (4, .ref ou), (5, .int (nI oa))] [] S _
  refine ks_iconst (x := nI 0) dX16_sha_0 (by decide) rfl ?_
  refine ks_istore dX16_sha_1 (by decide) rfl ?_
  refine ks_sub [(6, _), (0, _), (1, _), (2, _), (3, _), (4, _), (5, _)] rfl ?_
  refine ks_iload dX16_sha_3 rfl rfl ?_
  refine ks_bipush (x := nI 8) dX16_sha_5 (by decide) rfl ?_
  refine ks_icmp_geN (tgt := 30) (by decide) (by decide) dX16_sha_7 (by decide) rfl (fun h => absurd h (by decide)) (fun _ => ?_)
  refine ks_aload_n dX16_sha_10 rfl rfl ?_
  refine ks_getf (T := TX16) (kf := 1) kx_2369 rfl in_X16 cl_X16 (by decide) hO rfl dX16_sha_11 rfl ?_
  refine ks_iload dX16_sha_14 rfl rfl ?_
  refine ks_aload_n dX16_sha_16 rfl rfl ?_
  refine ks_getf (T := TX16) (kf := 3) kx_2371 rfl in_X16 cl_X16 (by decide) hO rfl dX16_sha_17 rfl ?_
  refine ks_iload dX16_sha_20 rfl rfl ?_
  refine ks_ialdN (i := 0) h294 rfl (by decide) (by decide) dX16_sha_22 rfl ?_
  refine ks_iastN (i := 0) (by decide) h292 rfl (by decide) (by decide) dX16_sha_23 rfl ?_
  refine ks_incN (c := 1) (e := 1) dX16_sha_24 rfl (by decide) rfl (by decide) rfl ?_
  refine ks_sub [(6, _), (0, _), (1, _), (2, _), (3, _), (4, _), (5, _)] rfl ?_
  refine ks_goto (tgt := 3) dX16_sha_27 (by decide) ?_
  refine ks_iload dX16_sha_3 rfl rfl ?_
  refine ks_bipush (x := nI 8) dX16_sha_5 (by decide) rfl ?_
  refine ks_icmp_geN (tgt := 30) (by decide) (by decide) dX16_sha_7 (by decide) rfl (fun h => absurd h (by decide)) (fun _ => ?_)
  refine ks_aload_n dX16_sha_10 rfl rfl ?_
  refine ks_getf (T := TX16) (kf := 1) kx_2369 rfl in_X16 cl_X16 (by decide) ((ks_set_ne _ _ (by decide)).trans hO) rfl dX16_sha_11 rfl ?_
  refine ks_iload dX16_sha_14 rfl rfl ?_
  refine ks_aload_n dX16_sha_16 rfl rfl ?_
  refine ks_getf (T := TX16) (kf := 3) kx_2371 rfl in_X16 cl_X16 (by decide) ((ks_set_ne _ _ (by decide)).trans hO) rfl dX16_sha_17 rfl ?_
  refine ks_iload dX16_sha_20 rfl rfl ?_
  refine ks_ialdN (i := 1) ((ks_set_ne _ _ (by decide)).trans h294) rfl (by decide) (by decide) dX16_sha_22 rfl ?_
  refine ks_iastN (i := 1) (by decide) (ks_set_same _ _ _) rfl (by decide) (by decide) dX16_sha_23 rfl ?_
  refine ks_incN (c := 1) (e := 2) dX16_sha_24 rfl (by decide) rfl (by decide) rfl ?_
  refine ks_sub [(6, _), (0, _), (1, _), (2, _), (3, _), (4, _), (5, _)] rfl ?_
  refine ks_goto (tgt := 3) dX16_sha_27 (by decide) ?_
  refine ks_iload dX16_sha_3 rfl rfl ?_
  refine ks_bipush (x := nI 8) dX16_sha_5 (by decide) rfl ?_
  refine ks_icmp_geN (tgt := 30) (by decide) (by decide) dX16_sha_7 (by decide) rfl (fun h => absurd h (by decide)) (fun _ => ?_)
  refine ks_aload_n dX16_sha_10 rfl rfl ?_
  refine ks_getf (T := TX16) (kf := 1) kx_2369 rfl in_X16 cl_X16 (by decide) ((ks_set_ne _ _ (by decide)).trans ((ks_set_ne _ _ (by decide)).trans hO)) rfl dX16_sha_11 rfl ?_
  refine ks_iload dX16_sha_14 rfl rfl ?_
  refine ks_aload_n dX16_sha_16 rfl rfl ?_
  refine ks_getf (T := TX16) (kf := 3) kx_2371 rfl in_X16 cl_X16 (by decide) ((ks_set_ne _ _ (by decide)).trans ((ks_set_ne _ _ (by decide)).trans hO)) rfl dX16_sha_17 rfl ?_
  refine ks_iload dX16_sha_20 rfl rfl ?_
  refine ks_ialdN (i := 2) ((ks_set_ne _ _ (by decide)).trans ((ks_set_ne _ _ (by decide)).trans h294)) rfl (by decide) (by decide) dX16_sha_22 rfl ?_
  refine ks_iastN (i := 2) (by decide) (ks_set_same _ _ _) rfl (by decide) (by decide) dX16_sha_23 rfl ?_
  refine ks_incN (c := 1) (e := 3) dX16_sha_24 rfl (by decide) rfl (by decide) rfl ?_
  refine ks_sub [(6, _), (0, _), (1, _), (2, _), (3, _), (4, _), (5, _)] rfl ?_
  refine ks_goto (tgt := 3) dX16_sha_27 (by decide) ?_
  refine ks_iload dX16_sha_3 rfl rfl ?_
  refine ks_bipush (x := nI 8) dX16_sha_5 (by decide) rfl ?_
  refine ks_icmp_geN (tgt := 30) (by decide) (by decide) dX16_sha_7 (by decide) rfl (fun h => absurd h (by decide)) (fun _ => ?_)
  refine ks_aload_n dX16_sha_10 rfl rfl ?_
  refine ks_getf (T := TX16) (kf := 1) kx_2369 rfl in_X16 cl_X16 (by decide) ((ks_set_ne _ _ (by decide)).trans ((ks_set_ne _ _ (by decide)).trans ((ks_set_ne _ _ (by decide)).trans hO))) rfl dX16_sha_11 rfl ?_
  refine ks_iload dX16_sha_14 rfl rfl ?_
  refine ks_aload_n dX16_sha_16 rfl rfl ?_
  refine ks_getf (T := TX16) (kf := 3) kx_2371 rfl in_X16 cl_X16 (by decide) ((ks_set_ne _ _ (by decide)).trans ((ks_set_ne _ _ (by decide)).trans ((ks_set_ne _ _ (by decide)).trans hO))) rfl dX16_sha_17 rfl ?_
  refine ks_iload dX16_sha_20 rfl rfl ?_
  refine ks_ialdN (i := 3) ((ks_set_ne _ _ (by decide)).trans ((ks_set_ne _ _ (by decide)).trans ((ks_set_ne _ _ (by decide)).trans h294))) rfl (by decide) (by decide) dX16_sha_22 rfl ?_
  refine ks_iastN (i := 3) (by decide) (ks_set_same _ _ _) rfl (by decide) (by decide) dX16_sha_23 rfl ?_
  refine ks_incN (c := 1) (e := 4) dX16_sha_24 rfl (by decide) rfl (by decide) rfl ?_
  refine ks_sub [(6, _), (0, _), (1, _), (2, _), (3, _), (4, _), (5, _)] rfl ?_
  refine ks_goto (tgt := 3) dX16_sha_27 (by decide) ?_
  refine ks_iload dX16_sha_3 rfl rfl ?_
  refine ks_bipush (x := nI 8) dX16_sha_5 (by decide) rfl ?_
  refine ks_icmp_geN (tgt := 30) (by decide) (by decide) dX16_sha_7 (by decide) rfl (fun h => absurd h (by decide)) (fun _ => ?_)
  refine ks_aload_n dX16_sha_10 rfl rfl ?_
  refine ks_getf (T := TX16) (kf := 1) kx_2369 rfl in_X16 cl_X16 (by decide) ((ks_set_ne _ _ (by decide)).trans ((ks_set_ne _ _ (by decide)).trans ((ks_set_ne _ _ (by decide)).trans ((ks_set_ne _ _ (by decide)).trans hO)))) rfl dX16_sha_11 rfl ?_
  refine ks_iload dX16_sha_14 rfl rfl ?_
  refine ks_aload_n dX16_sha_16 rfl rfl ?_
  refine ks_getf (T := TX16) (kf := 3) kx_2371 rfl in_X16 cl_X16 (by decide) ((ks_set_ne _ _ (by decide)).trans ((ks_set_ne _ _ (by decide)).trans ((ks_set_ne _ _ (by decide)).trans ((ks_set_ne _ _ (by decide)).trans hO)))) rfl dX16_sha_17 rfl ?_
  refine ks_iload dX16_sha_20 rfl rfl ?_
  refine ks_ialdN (i := 4) ((ks_set_ne _ _ (by decide)).trans ((ks_set_ne _ _ (by decide)).trans ((ks_set_ne _ _ (by decide)).trans ((ks_set_ne _ _ (by decide)).trans h294)))) rfl (by decide) (by decide) dX16_sha_22 rfl ?_
  refine ks_iastN (i := 4) (by decide) (ks_set_same _ _ _) rfl (by decide) (by decide) dX16_sha_23 rfl ?_
  refine ks_incN (c := 1) (e := 5) dX16_sha_24 rfl (by decide) rfl (by decide) rfl ?_
  refine ks_sub [(6, _), (0, _), (1, _), (2, _), (3, _), (4, _), (5, _)] rfl ?_
  refine ks_goto (tgt := 3) dX16_sha_27 (by decide) ?_
  refine ks_iload dX16_sha_3 rfl rfl ?_
  refine ks_bipush (x := nI 8) dX16_sha_5 (by decide) rfl ?_
  refine ks_icmp_geN (tgt := 30) (by decide) (by decide) dX16_sha_7 (by decide) rfl (fun h => absurd h (by decide)) (fun _ => ?_)
  refine ks_aload_n dX16_sha_10 rfl rfl ?_
  refine ks_getf (T := TX16) (kf := 1) kx_2369 rfl in_X16 cl_X16 (by decide) ((ks_set_ne _ _ (by decide)).trans ((ks_set_ne _ _ (by decide)).trans ((ks_set_ne _ _ (by decide)).trans ((ks_set_ne _ _ (by decide)).trans ((ks_set_ne _ _ (by decide)).trans hO))))) rfl dX16_sha_11 rfl ?_
  refine ks_iload dX16_sha_14 rfl rfl ?_
  refine ks_aload_n dX16_sha_16 rfl rfl ?_
  refine ks_getf (T := TX16) (kf := 3) kx_2371 rfl in_X16 cl_X16 (by decide) ((ks_set_ne _ _ (by decide)).trans ((ks_set_ne _ _ (by decide)).trans ((ks_set_ne _ _ (by decide)).trans ((ks_set_ne _ _ (by decide)).trans ((ks_set_ne _ _ (by decide)).trans hO))))) rfl dX16_sha_17 rfl ?_
  refine ks_iload dX16_sha_20 rfl rfl ?_
  refine ks_ialdN (i := 5) ((ks_set_ne _ _ (by decide)).trans ((ks_set_ne _ _ (by decide)).trans ((ks_set_ne _ _ (by decide)).trans ((ks_set_ne _ _ (by decide)).trans ((ks_set_ne _ _ (by decide)).trans h294))))) rfl (by decide) (by decide) dX16_sha_22 rfl ?_
  refine ks_iastN (i := 5) (by decide) (ks_set_same _ _ _) rfl (by decide) (by decide) dX16_sha_23 rfl ?_
  refine ks_incN (c := 1) (e := 6) dX16_sha_24 rfl (by decide) rfl (by decide) rfl ?_
  refine ks_sub [(6, _), (0, _), (1, _), (2, _), (3, _), (4, _), (5, _)] rfl ?_
  refine ks_goto (tgt := 3) dX16_sha_27 (by decide) ?_
  refine ks_iload dX16_sha_3 rfl rfl ?_
  refine ks_bipush (x := nI 8) dX16_sha_5 (by decide) rfl ?_
  refine ks_icmp_geN (tgt := 30) (by decide) (by decide) dX16_sha_7 (by decide) rfl (fun h => absurd h (by decide)) (fun _ => ?_)
  refine ks_aload_n dX16_sha_10 rfl rfl ?_
  refine ks_getf (T := TX16) (kf := 1) kx_2369 rfl in_X16 cl_X16 (by decide) ((ks_set_ne _ _ (by decide)).trans ((ks_set_ne _ _ (by decide)).trans ((ks_set_ne _ _ (by decide)).trans ((ks_set_ne _ _ (by decide)).trans ((ks_set_ne _ _ (by decide)).trans ((ks_set_ne _ _ (by decide)).trans hO)))))) rfl dX16_sha_11 rfl ?_
  refine ks_iload dX16_sha_14 rfl rfl ?_
  refine ks_aload_n dX16_sha_16 rfl rfl ?_
  refine ks_getf (T := TX16) (kf := 3) kx_2371 rfl in_X16 cl_X16 (by decide) ((ks_set_ne _ _ (by decide)).trans ((ks_set_ne _ _ (by decide)).trans ((ks_set_ne _ _ (by decide)).trans ((ks_set_ne _ _ (by decide)).trans ((ks_set_ne _ _ (by decide)).trans ((ks_set_ne _ _ (by decide)).trans hO)))))) rfl dX16_sha_17 rfl ?_
  refine ks_iload dX16_sha_20 rfl rfl ?_
  refine ks_ialdN (i := 6) ((ks_set_ne _ _ (by decide)).trans ((ks_set_ne _ _ (by decide)).trans ((ks_set_ne _ _ (by decide)).trans ((ks_set_ne _ _ (by decide)).trans ((ks_set_ne _ _ (by decide)).trans ((ks_set_ne _ _ (by decide)).trans h294)))))) rfl (by decide) (by decide) dX16_sha_22 rfl ?_
  refine ks_iastN (i := 6) (by decide) (ks_set_same _ _ _) rfl (by decide) (by decide) dX16_sha_23 rfl ?_
  refine ks_incN (c := 1) (e := 7) dX16_sha_24 rfl (by decide) rfl (by decide) rfl ?_
  refine ks_sub [(6, _), (0, _), (1, _), (2, _), (3, _), (4, _), (5, _)] rfl ?_
  refine ks_goto (tgt := 3) dX16_sha_27 (by decide) ?_
  refine ks_iload dX16_sha_3 rfl rfl ?_
  refine ks_bipush (x := nI 8) dX16_sha_5 (by decide) rfl ?_
  refine ks_icmp_geN (tgt := 30) (by decide) (by decide) dX16_sha_7 (by decide) rfl (fun h => absurd h (by decide)) (fun _ => ?_)
  refine ks_aload_n dX16_sha_10 rfl rfl ?_
  refine ks_getf (T := TX16) (kf := 1) kx_2369 rfl in_X16 cl_X16 (by decide) ((ks_set_ne _ _ (by decide)).trans ((ks_set_ne _ _ (by decide)).trans ((ks_set_ne _ _ (by decide)).trans ((ks_set_ne _ _ (by decide)).trans ((ks_set_ne _ _ (by decide)).trans ((ks_set_ne _ _ (by decide)).trans ((ks_set_ne _ _ (by decide)).trans hO))))))) rfl dX16_sha_11 rfl ?_
  refine ks_iload dX16_sha_14 rfl rfl ?_
  refine ks_aload_n dX16_sha_16 rfl rfl ?_
  refine ks_getf (T := TX16) (kf := 3) kx_2371 rfl in_X16 cl_X16 (by decide) ((ks_set_ne _ _ (by decide)).trans ((ks_set_ne _ _ (by decide)).trans ((ks_set_ne _ _ (by decide)).trans ((ks_set_ne _ _ (by decide)).trans ((ks_set_ne _ _ (by decide)).trans ((ks_set_ne _ _ (by decide)).trans ((ks_set_ne _ _ (by decide)).trans hO))))))) rfl dX16_sha_17 rfl ?_
  refine ks_iload dX16_sha_20 rfl rfl ?_
  refine ks_ialdN (i := 7) ((ks_set_ne _ _ (by decide)).trans ((ks_set_ne _ _ (by decide)).trans ((ks_set_ne _ _ (by decide)).trans ((ks_set_ne _ _ (by decide)).trans ((ks_set_ne _ _ (by decide)).trans ((ks_set_ne _ _ (by decide)).trans ((ks_set_ne _ _ (by decide)).trans h294))))))) rfl (by decide) (by decide) dX16_sha_22 rfl ?_
  refine ks_iastN (i := 7) (by decide) (ks_set_same _ _ _) rfl (by decide) (by decide) dX16_sha_23 rfl ?_
  refine ks_incN (c := 1) (e := 8) dX16_sha_24 rfl (by decide) rfl (by decide) rfl ?_
  refine ks_sub [(6, _), (0, _), (1, _), (2, _), (3, _), (4, _), (5, _)] rfl ?_
  refine ks_goto (tgt := 3) dX16_sha_27 (by decide) ?_
  refine ks_iload dX16_sha_3 rfl rfl ?_
  refine ks_bipush (x := nI 8) dX16_sha_5 (by decide) rfl ?_
  refine ks_icmp_geN (tgt := 30) (by decide) (by decide) dX16_sha_7 (by decide) rfl (fun _ => ?_) (fun h => absurd h (by decide))
  refine ks_iload_n dX16_sha_30 rfl rfl ?_
  refine ks_bipush (x := nI 64) dX16_sha_31 (by decide) rfl ?_
  refine ks_divN (by omega) (by decide) (by decide) dX16_sha_33 rfl ?_
  refine ks_bipush (x := nI 64) dX16_sha_34 (by decide) rfl ?_
  refine ks_mulN dX16_sha_36 rfl ?_
  refine ks_istore dX16_sha_37 (by decide) rfl ?_
  refine ks_sub [(6, _), (0, _), (1, _), (2, _), (3, _), (4, _), (5, _)] rfl ?_
  refine ks_iconst (x := nI 0) dX16_sha_39 (by decide) rfl ?_
  refine ks_istore dX16_sha_40 (by decide) rfl ?_
  refine ks_sub [(7, _), (0, _), (1, _), (2, _), (3, _), (4, _), (5, _), (6, _)] rfl ?_
  refine ks_sub [(0, _), (1, _), (2, _), (3, _), (4, _), (5, _), (6, _), (7, _)] rfl (l1 (n / 64) 0 _ _ (Nat.zero_add _) ?_ (ks_set_same _ _ _) ⟨f0, ?_⟩ ⟨v0, ?_⟩ (fun x hx => ?_))
  · exact (((((((ks_up_set _ _ (by decide)).trans (ks_up_set _ _ (by decide))).trans (ks_up_set _ _ (by decide))).trans (ks_up_set _ _ (by decide))).trans (ks_up_set _ _ (by decide))).trans (ks_up_set _ _ (by decide))).trans (ks_up_set _ _ (by decide))).trans (ks_up_set _ _ (by decide))
  · exact ((ks_set_ne _ _ (by decide)).trans ((ks_set_ne _ _ (by decide)).trans ((ks_set_ne _ _ (by decide)).trans ((ks_set_ne _ _ (by decide)).trans ((ks_set_ne _ _ (by decide)).trans ((ks_set_ne _ _ (by decide)).trans ((ks_set_ne _ _ (by decide)).trans ((ks_set_ne _ _ (by decide)).trans h293))))))))
  · exact ((ks_set_ne _ _ (by decide)).trans ((ks_set_ne _ _ (by decide)).trans ((ks_set_ne _ _ (by decide)).trans ((ks_set_ne _ _ (by decide)).trans ((ks_set_ne _ _ (by decide)).trans ((ks_set_ne _ _ (by decide)).trans ((ks_set_ne _ _ (by decide)).trans ((ks_set_ne _ _ (by decide)).trans h299))))))))
  · have h8 : x = 0 ∨ x = 1 ∨ x = 2 ∨ x = 3 ∨ x = 4 ∨ x = 5 ∨ x = 6 ∨ x = 7 := by omega
    rcases h8 with rfl | rfl | rfl | rfl | rfl | rfl | rfl | rfl <;> rfl
set_option maxRecDepth 100000 in
set_option maxHeartbeats 800000 in
theorem c_md_again {l : Launch} {G : ks_G} {d : Nat} {S : ks_S} {V : Nat → Value} {fr N i n ou No oa : Nat} {g go gi : Nat → Nat} (hO : S.2.2 290 = some (rfE V)) (hM : mhR S) (h305 : S.2.2 305 = some (kB 32 gi)) (kgi : kO gi) (hf : S.2.2 fr = some (kB N g)) (kg : kO g) (hi : i + n ≤ N) (hN : N < 2 ^ 28) (ho : S.2.2 ou = some (kB No go)) (kgo : kO go) (hoa : oa + 32 ≤ No) (hNo : No < 2 ^ 28) (hfr : fr ≠ 291) (hou : ou ≠ 291 ∧ ou ≠ 305) : ks_P l G yX16_again mX16_again (d + 3) [.ref 290, .ref fr, .int (nI i), .int (nI n), .ref ou, .int (nI oa)] S (fun z S' => z = none ∧ ks_up S S' [291, 292, 293, 299, 305, ou] ∧ mhR S' ∧ (∃ g, kO g ∧ S'.2.2 305 = some (kB 32 g)) ∧ S'.2.2 ou = some (kB No (ks_pt (twice_ (fun k => g (i + k)) n) go oa 32))) := by
  have uk : ou ≠ 290 := ks_neO ho hO
  refine ks_of (by decide) rfl rfl (Nat.le_of_ble_eq_true rfl) ?_
  show ks_X l G mX16_again (d + 3) 0 [(0, .ref 290), (1, .ref fr), (2, .int (nI i)), (3, .int (nI n)), (4, .ref ou), (5, .int (nI oa))] [] S _
  refine ks_aload_n dX16_again_0 rfl rfl ?_
  refine ks_aload_n dX16_again_1 rfl rfl ?_
  refine ks_iload_n dX16_again_2 rfl rfl ?_
  refine ks_iload_n dX16_again_3 rfl rfl ?_
  refine ks_aload_n dX16_again_4 rfl rfl ?_
  refine ks_getf (T := TX16) (kf := 14) kx_2382 rfl in_X16 cl_X16 (by decide) hO rfl dX16_again_5 rfl ?_
  refine ks_iconst (x := nI 0) dX16_again_8 (by decide) rfl ?_
  refine ks_callV (n := 5) (M' := mX16_sha) (c_md_sha (d := d) hO hM hf kg hi hN h305 kgi (oa := 0) (by decide) (by decide) hfr (by decide)) hO cl_X16 rfl kx_1992 kx_1994 kxp_62 kx_30 kx_1995 (by decide +kernel) rfl (by decide) (Nat.le_of_ble_eq_true rfl) rfl dX16_again_9 rfl (fun z1 T1 y1 => ?_)
  obtain ⟨rfl, u1, m1, e1⟩ := y1
  have k1 : kO (ks_pt (sha_ (fun k => g (i + k)) n) gi 0 32) := kO_pt (kO_sha _ _) kgi 0 32
  have o1 := u1.at hO (by decide)
  obtain ⟨go1, kgo1, ho1, eq1⟩ : ∃ go1, kO go1 ∧ T1.2.2 ou = some (kB No go1) ∧ go1 = go := by
    refine ⟨go, kgo, u1.at ho ?_, rfl⟩
    obtain ⟨⟨a1, a2, a3⟩, ⟨b1, b2⟩, ⟨c1, c2⟩, -, -, ⟨d1, d2⟩⟩ := hM
    have q2 : ou ≠ 292 := ks_ne ho b2 (fun e => by cases e)
    have q3 : ou ≠ 293 := ks_ne ho c2 (fun e => by cases e)
    have q4 : ou ≠ 299 := ks_ne ho d2 (fun e => by cases e)
    simp only [List.mem_cons, List.not_mem_nil, or_false]
    omega
  subst eq1
  refine ks_aload_n dX16_again_12 rfl rfl ?_
  refine ks_aload_n dX16_again_13 rfl rfl ?_
  refine ks_getf (T := TX16) (kf := 14) kx_2382 rfl in_X16 cl_X16 (by decide) o1 rfl dX16_again_14 rfl ?_
  refine ks_iconst (x := nI 0) dX16_again_17 (by decide) rfl ?_
  refine ks_bipush (x := nI 32) dX16_again_18 (by decide) rfl ?_
  refine ks_aload dX16_again_20 rfl rfl ?_
  refine ks_iload dX16_again_22 rfl rfl ?_
  refine ks_callV (n := 5) (M' := mX16_sha) (c_md_sha (d := d) (i := 0) (n := 32) o1 m1 e1 k1 (by decide) (by decide) ho1 kgo hoa hNo (by decide) hou.1) o1 cl_X16 rfl kx_1992 kx_1994 kxp_62 kx_30 kx_1995 (by decide +kernel) rfl (by decide) (Nat.le_of_ble_eq_true rfl) rfl dX16_again_24 rfl (fun z2 T2 y2 => ?_)
  obtain ⟨rfl, u2, m2, e2⟩ := y2
  refine ks_ret rfl dX16_again_27 ?_
  have e3 : ks_pt (sha_ (fun k => ks_pt (sha_ (fun k => g (i + k)) n) gi 0 32 (0 + k)) 32) go1 oa 32 = ks_pt (twice_ (fun k => g (i + k)) n) go1 oa 32 := by
    unfold twice_
    rw [sha_congr (m' := sha_ (fun k => g (i + k)) n) (fun k hk => by
      unfold ks_pt
      rw [if_pos (by omega), Nat.zero_add, Nat.sub_zero])]
  rw [e3] at e2
  refine ⟨rfl, (u1.mono (by intro x hx; simp only [List.mem_cons, List.not_mem_nil, or_false] at hx ⊢; omega)).trans (u2.mono ?_), m2, ⟨_, k1, u2.at e1 ?_⟩, e2⟩
  · intro x hx; simp only [List.mem_cons, List.not_mem_nil, or_false] at hx ⊢; omega
  · simp only [List.mem_cons, List.not_mem_nil, or_false]; omega
